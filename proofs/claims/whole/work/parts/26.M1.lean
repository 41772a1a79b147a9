/-! decode rows, by program -/
theorem d_M_pipe_76 : decode prog_9_method_22_code 76 = .ok (.goto (-23), 3) := by decide +kernel
theorem d_M_pipe_79 : decode prog_9_method_22_code 79 = .ok (.aload_n 0, 1) := by decide +kernel
theorem d_M_pipe_80 : decode prog_9_method_22_code 80 = .ok (.getfield 65, 3) := by decide +kernel
theorem d_M_pipe_83 : decode prog_9_method_22_code 83 = .ok (.iload 4, 2) := by decide +kernel
theorem d_M_pipe_85 : decode prog_9_method_22_code 85 = .ok (.iconst 0, 1) := by decide +kernel
theorem d_M_pipe_86 : decode prog_9_method_22_code 86 = .ok (.iastore, 1) := by decide +kernel
theorem d_M_pipe_87 : decode prog_9_method_22_code 87 = .ok (.aload_n 0, 1) := by decide +kernel
theorem d_M_pipe_88 : decode prog_9_method_22_code 88 = .ok (.getfield 47, 3) := by decide +kernel
theorem d_M_pipe_91 : decode prog_9_method_22_code 91 = .ok (.bipush 6, 2) := by decide +kernel
theorem d_M_pipe_93 : decode prog_9_method_22_code 93 = .ok (.iload_n 1, 1) := by decide +kernel
theorem d_M_pipe_94 : decode prog_9_method_22_code 94 = .ok (.imul, 1) := by decide +kernel
theorem d_M_pipe_95 : decode prog_9_method_22_code 95 = .ok (.iload_n 2, 1) := by decide +kernel
theorem d_M_pipe_96 : decode prog_9_method_22_code 96 = .ok (.iadd, 1) := by decide +kernel
theorem d_M_pipe_97 : decode prog_9_method_22_code 97 = .ok (.aload_n 0, 1) := by decide +kernel
theorem d_M_pipe_98 : decode prog_9_method_22_code 98 = .ok (.iconst 1, 1) := by decide +kernel
theorem d_M_pipe_99 : decode prog_9_method_22_code 99 = .ok (.iload 4, 2) := by decide +kernel
theorem d_M_pipe_101 : decode prog_9_method_22_code 101 = .ok (.iconst 1, 1) := by decide +kernel
theorem d_M_pipe_102 : decode prog_9_method_22_code 102 = .ok (.invokevirtual 122, 3) := by decide +kernel
theorem d_M_pipe_105 : decode prog_9_method_22_code 105 = .ok (.iastore, 1) := by decide +kernel
theorem d_M_pipe_106 : decode prog_9_method_22_code 106 = .ok (.aload_n 0, 1) := by decide +kernel
theorem d_M_pipe_107 : decode prog_9_method_22_code 107 = .ok (.getfield 47, 3) := by decide +kernel
theorem d_M_pipe_110 : decode prog_9_method_22_code 110 = .ok (.bipush 6, 2) := by decide +kernel
theorem d_M_pipe_112 : decode prog_9_method_22_code 112 = .ok (.iload_n 1, 1) := by decide +kernel
theorem d_M_pipe_113 : decode prog_9_method_22_code 113 = .ok (.imul, 1) := by decide +kernel
theorem d_M_pipe_114 : decode prog_9_method_22_code 114 = .ok (.iload_n 3, 1) := by decide +kernel
theorem d_M_pipe_115 : decode prog_9_method_22_code 115 = .ok (.iadd, 1) := by decide +kernel
theorem d_M_pipe_116 : decode prog_9_method_22_code 116 = .ok (.aload_n 0, 1) := by decide +kernel
theorem d_M_pipe_117 : decode prog_9_method_22_code 117 = .ok (.iconst 2, 1) := by decide +kernel
theorem d_M_pipe_118 : decode prog_9_method_22_code 118 = .ok (.iload 4, 2) := by decide +kernel
theorem d_M_pipe_120 : decode prog_9_method_22_code 120 = .ok (.iconst 2, 1) := by decide +kernel
theorem d_M_pipe_121 : decode prog_9_method_22_code 121 = .ok (.invokevirtual 122, 3) := by decide +kernel
theorem d_M_pipe_124 : decode prog_9_method_22_code 124 = .ok (.iastore, 1) := by decide +kernel
theorem d_M_pipe_125 : decode prog_9_method_22_code 125 = .ok (.iload_n 2, 1) := by decide +kernel
theorem d_M_pipe_126 : decode prog_9_method_22_code 126 = .ok (.bipush 8, 2) := by decide +kernel
theorem d_M_pipe_128 : decode prog_9_method_22_code 128 = .ok (.iload_n 3, 1) := by decide +kernel
theorem d_M_pipe_129 : decode prog_9_method_22_code 129 = .ok (.imul, 1) := by decide +kernel
theorem d_M_pipe_130 : decode prog_9_method_22_code 130 = .ok (.iadd, 1) := by decide +kernel
theorem d_M_pipe_131 : decode prog_9_method_22_code 131 = .ok (.ireturn, 1) := by decide +kernel
theorem d_M_hasEnd_0 : decode prog_9_method_8_code 0 = .ok (.iconst 0, 1) := by decide +kernel
theorem d_M_hasEnd_1 : decode prog_9_method_8_code 1 = .ok (.istore_n 3, 1) := by decide +kernel
theorem d_M_hasEnd_2 : decode prog_9_method_8_code 2 = .ok (.iload_n 3, 1) := by decide +kernel
theorem d_M_hasEnd_3 : decode prog_9_method_8_code 3 = .ok (.bipush 16, 2) := by decide +kernel
theorem d_M_hasEnd_5 : decode prog_9_method_8_code 5 = .ok (.if_icmp .ge 39, 3) := by decide +kernel
theorem d_M_hasEnd_8 : decode prog_9_method_8_code 8 = .ok (.aload_n 0, 1) := by decide +kernel
theorem d_M_hasEnd_9 : decode prog_9_method_8_code 9 = .ok (.iload_n 3, 1) := by decide +kernel
theorem d_M_hasEnd_10 : decode prog_9_method_8_code 10 = .ok (.invokevirtual 82, 3) := by decide +kernel
theorem d_M_hasEnd_13 : decode prog_9_method_8_code 13 = .ok (.ifCond .eq 25, 3) := by decide +kernel
theorem d_M_hasEnd_16 : decode prog_9_method_8_code 16 = .ok (.aload_n 0, 1) := by decide +kernel
theorem d_M_hasEnd_17 : decode prog_9_method_8_code 17 = .ok (.getfield 50, 3) := by decide +kernel
theorem d_M_hasEnd_20 : decode prog_9_method_8_code 20 = .ok (.iload_n 3, 1) := by decide +kernel
theorem d_M_hasEnd_21 : decode prog_9_method_8_code 21 = .ok (.iaload, 1) := by decide +kernel
theorem d_M_hasEnd_22 : decode prog_9_method_8_code 22 = .ok (.iload_n 2, 1) := by decide +kernel
theorem d_M_hasEnd_23 : decode prog_9_method_8_code 23 = .ok (.if_icmp .ne 15, 3) := by decide +kernel
theorem d_M_hasEnd_26 : decode prog_9_method_8_code 26 = .ok (.aload_n 0, 1) := by decide +kernel
theorem d_M_hasEnd_27 : decode prog_9_method_8_code 27 = .ok (.getfield 53, 3) := by decide +kernel
theorem d_M_hasEnd_30 : decode prog_9_method_8_code 30 = .ok (.iload_n 3, 1) := by decide +kernel
theorem d_M_hasEnd_31 : decode prog_9_method_8_code 31 = .ok (.iaload, 1) := by decide +kernel
theorem d_M_hasEnd_32 : decode prog_9_method_8_code 32 = .ok (.iload_n 1, 1) := by decide +kernel
theorem d_M_hasEnd_33 : decode prog_9_method_8_code 33 = .ok (.if_icmp .ne 5, 3) := by decide +kernel
theorem d_M_hasEnd_36 : decode prog_9_method_8_code 36 = .ok (.iconst 1, 1) := by decide +kernel
theorem d_M_hasEnd_37 : decode prog_9_method_8_code 37 = .ok (.ireturn, 1) := by decide +kernel
theorem d_M_hasEnd_38 : decode prog_9_method_8_code 38 = .ok (.iinc 3 1, 3) := by decide +kernel
theorem d_M_hasEnd_41 : decode prog_9_method_8_code 41 = .ok (.goto (-39), 3) := by decide +kernel
theorem d_M_hasEnd_44 : decode prog_9_method_8_code 44 = .ok (.iconst 0, 1) := by decide +kernel
theorem d_M_hasEnd_45 : decode prog_9_method_8_code 45 = .ok (.ireturn, 1) := by decide +kernel
theorem d_M_read_0 : decode prog_9_method_23_code 0 = .ok (.aload_n 0, 1) := by decide +kernel
theorem d_M_read_1 : decode prog_9_method_23_code 1 = .ok (.iload_n 1, 1) := by decide +kernel
theorem d_M_read_2 : decode prog_9_method_23_code 2 = .ok (.iload_n 2, 1) := by decide +kernel
theorem d_M_read_3 : decode prog_9_method_23_code 3 = .ok (.invokevirtual 130, 3) := by decide +kernel
theorem d_M_read_6 : decode prog_9_method_23_code 6 = .ok (.istore_n 3, 1) := by decide +kernel
theorem d_M_read_7 : decode prog_9_method_23_code 7 = .ok (.iload_n 3, 1) := by decide +kernel
theorem d_M_read_8 : decode prog_9_method_23_code 8 = .ok (.ifCond .ge 5, 3) := by decide +kernel
theorem d_M_read_11 : decode prog_9_method_23_code 11 = .ok (.iload_n 3, 1) := by decide +kernel
theorem d_M_read_12 : decode prog_9_method_23_code 12 = .ok (.ireturn, 1) := by decide +kernel
theorem d_M_read_13 : decode prog_9_method_23_code 13 = .ok (.aload_n 0, 1) := by decide +kernel
theorem d_M_read_14 : decode prog_9_method_23_code 14 = .ok (.getfield 56, 3) := by decide +kernel
theorem d_M_read_17 : decode prog_9_method_23_code 17 = .ok (.iload_n 3, 1) := by decide +kernel
theorem d_M_read_18 : decode prog_9_method_23_code 18 = .ok (.iaload, 1) := by decide +kernel
theorem d_M_read_19 : decode prog_9_method_23_code 19 = .ok (.iconst 1, 1) := by decide +kernel
theorem d_M_read_20 : decode prog_9_method_23_code 20 = .ok (.iand, 1) := by decide +kernel
theorem d_M_read_21 : decode prog_9_method_23_code 21 = .ok (.ifCond .ne 6, 3) := by decide +kernel
theorem d_M_read_24 : decode prog_9_method_23_code 24 = .ok (.bipush (-3), 2) := by decide +kernel
theorem d_M_read_26 : decode prog_9_method_23_code 26 = .ok (.ireturn, 1) := by decide +kernel
theorem d_M_read_27 : decode prog_9_method_23_code 27 = .ok (.aload_n 0, 1) := by decide +kernel
theorem d_M_read_28 : decode prog_9_method_23_code 28 = .ok (.getfield 50, 3) := by decide +kernel
theorem d_M_read_31 : decode prog_9_method_23_code 31 = .ok (.iload_n 3, 1) := by decide +kernel
theorem d_M_read_32 : decode prog_9_method_23_code 32 = .ok (.iaload, 1) := by decide +kernel
theorem d_M_read_33 : decode prog_9_method_23_code 33 = .ok (.iconst 1, 1) := by decide +kernel
theorem d_M_read_34 : decode prog_9_method_23_code 34 = .ok (.if_icmp .ne 105, 3) := by decide +kernel
theorem d_M_read_37 : decode prog_9_method_23_code 37 = .ok (.aload_n 0, 1) := by decide +kernel
theorem d_M_read_38 : decode prog_9_method_23_code 38 = .ok (.getfield 53, 3) := by decide +kernel
theorem d_M_read_41 : decode prog_9_method_23_code 41 = .ok (.iload_n 3, 1) := by decide +kernel
theorem d_M_read_42 : decode prog_9_method_23_code 42 = .ok (.iaload, 1) := by decide +kernel
theorem d_M_read_43 : decode prog_9_method_23_code 43 = .ok (.istore 4, 2) := by decide +kernel
theorem d_M_read_45 : decode prog_9_method_23_code 45 = .ok (.aload_n 0, 1) := by decide +kernel
theorem d_M_read_46 : decode prog_9_method_23_code 46 = .ok (.getfield 65, 3) := by decide +kernel
theorem d_M_read_49 : decode prog_9_method_23_code 49 = .ok (.iload 4, 2) := by decide +kernel
theorem d_M_read_51 : decode prog_9_method_23_code 51 = .ok (.iaload, 1) := by decide +kernel
theorem d_M_read_52 : decode prog_9_method_23_code 52 = .ok (.ifCond .ne 21, 3) := by decide +kernel
theorem d_M_read_55 : decode prog_9_method_23_code 55 = .ok (.aload_n 0, 1) := by decide +kernel
theorem d_M_read_56 : decode prog_9_method_23_code 56 = .ok (.iload 4, 2) := by decide +kernel
theorem d_M_read_58 : decode prog_9_method_23_code 58 = .ok (.iconst 2, 1) := by decide +kernel
theorem d_M_read_59 : decode prog_9_method_23_code 59 = .ok (.invokevirtual 126, 3) := by decide +kernel
theorem d_M_read_62 : decode prog_9_method_23_code 62 = .ok (.ifCond .eq 8, 3) := by decide +kernel
theorem d_M_read_65 : decode prog_9_method_23_code 65 = .ok (.bipush (-6), 2) := by decide +kernel
theorem d_M_read_67 : decode prog_9_method_23_code 67 = .ok (.goto 5, 3) := by decide +kernel
theorem d_M_read_70 : decode prog_9_method_23_code 70 = .ok (.bipush (-7), 2) := by decide +kernel
theorem d_M_read_72 : decode prog_9_method_23_code 72 = .ok (.ireturn, 1) := by decide +kernel
theorem d_M_read_73 : decode prog_9_method_23_code 73 = .ok (.aload_n 0, 1) := by decide +kernel
theorem d_M_read_74 : decode prog_9_method_23_code 74 = .ok (.getfield 62, 3) := by decide +kernel
theorem d_M_read_77 : decode prog_9_method_23_code 77 = .ok (.iconst 4, 1) := by decide +kernel
theorem d_M_read_78 : decode prog_9_method_23_code 78 = .ok (.iload 4, 2) := by decide +kernel
theorem d_M_read_80 : decode prog_9_method_23_code 80 = .ok (.imul, 1) := by decide +kernel
theorem d_M_read_81 : decode prog_9_method_23_code 81 = .ok (.iaload, 1) := by decide +kernel
theorem d_M_read_82 : decode prog_9_method_23_code 82 = .ok (.istore 5, 2) := by decide +kernel
theorem d_M_read_84 : decode prog_9_method_23_code 84 = .ok (.iconst 1, 1) := by decide +kernel
theorem d_M_read_85 : decode prog_9_method_23_code 85 = .ok (.istore 6, 2) := by decide +kernel
theorem d_M_read_87 : decode prog_9_method_23_code 87 = .ok (.iload 6, 2) := by decide +kernel
theorem d_M_read_89 : decode prog_9_method_23_code 89 = .ok (.iconst 4, 1) := by decide +kernel
theorem d_M_read_90 : decode prog_9_method_23_code 90 = .ok (.if_icmp .ge 35, 3) := by decide +kernel
theorem d_M_read_93 : decode prog_9_method_23_code 93 = .ok (.aload_n 0, 1) := by decide +kernel
theorem d_M_read_94 : decode prog_9_method_23_code 94 = .ok (.getfield 62, 3) := by decide +kernel
theorem d_M_read_97 : decode prog_9_method_23_code 97 = .ok (.iconst 4, 1) := by decide +kernel
theorem d_M_read_98 : decode prog_9_method_23_code 98 = .ok (.iload 4, 2) := by decide +kernel
theorem d_M_read_100 : decode prog_9_method_23_code 100 = .ok (.imul, 1) := by decide +kernel
theorem d_M_read_101 : decode prog_9_method_23_code 101 = .ok (.iload 6, 2) := by decide +kernel
theorem d_M_read_103 : decode prog_9_method_23_code 103 = .ok (.iadd, 1) := by decide +kernel
theorem d_M_read_104 : decode prog_9_method_23_code 104 = .ok (.iconst 1, 1) := by decide +kernel
theorem d_M_read_105 : decode prog_9_method_23_code 105 = .ok (.isub, 1) := by decide +kernel
theorem d_M_read_106 : decode prog_9_method_23_code 106 = .ok (.aload_n 0, 1) := by decide +kernel
theorem d_M_read_107 : decode prog_9_method_23_code 107 = .ok (.getfield 62, 3) := by decide +kernel
theorem d_M_read_110 : decode prog_9_method_23_code 110 = .ok (.iconst 4, 1) := by decide +kernel
theorem d_M_read_111 : decode prog_9_method_23_code 111 = .ok (.iload 4, 2) := by decide +kernel
theorem d_M_read_113 : decode prog_9_method_23_code 113 = .ok (.imul, 1) := by decide +kernel
theorem d_M_read_114 : decode prog_9_method_23_code 114 = .ok (.iload 6, 2) := by decide +kernel
theorem d_M_read_116 : decode prog_9_method_23_code 116 = .ok (.iadd, 1) := by decide +kernel
theorem d_M_read_117 : decode prog_9_method_23_code 117 = .ok (.iaload, 1) := by decide +kernel
theorem d_M_read_118 : decode prog_9_method_23_code 118 = .ok (.iastore, 1) := by decide +kernel
theorem d_M_read_119 : decode prog_9_method_23_code 119 = .ok (.iinc 6 1, 3) := by decide +kernel
theorem d_M_read_122 : decode prog_9_method_23_code 122 = .ok (.goto (-35), 3) := by decide +kernel
theorem d_M_read_125 : decode prog_9_method_23_code 125 = .ok (.aload_n 0, 1) := by decide +kernel
theorem d_M_read_126 : decode prog_9_method_23_code 126 = .ok (.getfield 65, 3) := by decide +kernel
theorem d_M_read_129 : decode prog_9_method_23_code 129 = .ok (.iload 4, 2) := by decide +kernel
theorem d_M_read_131 : decode prog_9_method_23_code 131 = .ok (.dup2, 1) := by decide +kernel
theorem d_M_read_132 : decode prog_9_method_23_code 132 = .ok (.iaload, 1) := by decide +kernel
theorem d_M_read_133 : decode prog_9_method_23_code 133 = .ok (.iconst 1, 1) := by decide +kernel
theorem d_M_read_134 : decode prog_9_method_23_code 134 = .ok (.isub, 1) := by decide +kernel
theorem d_M_read_135 : decode prog_9_method_23_code 135 = .ok (.iastore, 1) := by decide +kernel
theorem d_M_read_136 : decode prog_9_method_23_code 136 = .ok (.iload 5, 2) := by decide +kernel
theorem d_M_read_138 : decode prog_9_method_23_code 138 = .ok (.ireturn, 1) := by decide +kernel
theorem d_M_read_139 : decode prog_9_method_23_code 139 = .ok (.aload_n 0, 1) := by decide +kernel
theorem d_M_read_140 : decode prog_9_method_23_code 140 = .ok (.getfield 59, 3) := by decide +kernel
theorem d_M_read_143 : decode prog_9_method_23_code 143 = .ok (.iload_n 3, 1) := by decide +kernel
theorem d_M_read_144 : decode prog_9_method_23_code 144 = .ok (.iaload, 1) := by decide +kernel
theorem d_M_read_145 : decode prog_9_method_23_code 145 = .ok (.istore 4, 2) := by decide +kernel
theorem d_M_read_147 : decode prog_9_method_23_code 147 = .ok (.iload 4, 2) := by decide +kernel
theorem d_M_read_149 : decode prog_9_method_23_code 149 = .ok (.aload_n 0, 1) := by decide +kernel
theorem d_M_read_150 : decode prog_9_method_23_code 150 = .ok (.getfield 20, 3) := by decide +kernel
theorem d_M_read_153 : decode prog_9_method_23_code 153 = .ok (.aload_n 0, 1) := by decide +kernel
theorem d_M_read_154 : decode prog_9_method_23_code 154 = .ok (.getfield 53, 3) := by decide +kernel
theorem d_M_read_157 : decode prog_9_method_23_code 157 = .ok (.iload_n 3, 1) := by decide +kernel
theorem d_M_read_158 : decode prog_9_method_23_code 158 = .ok (.iaload, 1) := by decide +kernel
theorem d_M_read_159 : decode prog_9_method_23_code 159 = .ok (.iaload, 1) := by decide +kernel
theorem d_M_read_160 : decode prog_9_method_23_code 160 = .ok (.if_icmp .lt 6, 3) := by decide +kernel
theorem d_M_read_163 : decode prog_9_method_23_code 163 = .ok (.bipush (-7), 2) := by decide +kernel
theorem d_M_read_165 : decode prog_9_method_23_code 165 = .ok (.ireturn, 1) := by decide +kernel
theorem d_M_read_166 : decode prog_9_method_23_code 166 = .ok (.aload_n 0, 1) := by decide +kernel
theorem d_M_read_167 : decode prog_9_method_23_code 167 = .ok (.aload_n 0, 1) := by decide +kernel
theorem d_M_read_168 : decode prog_9_method_23_code 168 = .ok (.getfield 53, 3) := by decide +kernel
theorem d_M_read_171 : decode prog_9_method_23_code 171 = .ok (.iload_n 3, 1) := by decide +kernel
theorem d_M_read_172 : decode prog_9_method_23_code 172 = .ok (.iaload, 1) := by decide +kernel
theorem d_M_read_173 : decode prog_9_method_23_code 173 = .ok (.iload 4, 2) := by decide +kernel
theorem d_M_read_175 : decode prog_9_method_23_code 175 = .ok (.bipush 8, 2) := by decide +kernel
theorem d_M_read_177 : decode prog_9_method_23_code 177 = .ok (.idiv, 1) := by decide +kernel
theorem d_M_read_178 : decode prog_9_method_23_code 178 = .ok (.invokevirtual 133, 3) := by decide +kernel
theorem d_M_read_181 : decode prog_9_method_23_code 181 = .ok (.ifCond .ne 6, 3) := by decide +kernel
theorem d_M_read_184 : decode prog_9_method_23_code 184 = .ok (.bipush (-8), 2) := by decide +kernel
theorem d_M_read_186 : decode prog_9_method_23_code 186 = .ok (.ireturn, 1) := by decide +kernel
theorem d_M_read_187 : decode prog_9_method_23_code 187 = .ok (.aload_n 0, 1) := by decide +kernel
theorem d_M_read_188 : decode prog_9_method_23_code 188 = .ok (.getfield 59, 3) := by decide +kernel
theorem d_M_read_191 : decode prog_9_method_23_code 191 = .ok (.iload_n 3, 1) := by decide +kernel
theorem d_M_read_192 : decode prog_9_method_23_code 192 = .ok (.dup2, 1) := by decide +kernel
theorem d_M_read_193 : decode prog_9_method_23_code 193 = .ok (.iaload, 1) := by decide +kernel
theorem d_M_read_194 : decode prog_9_method_23_code 194 = .ok (.iconst 1, 1) := by decide +kernel
theorem d_M_read_195 : decode prog_9_method_23_code 195 = .ok (.iadd, 1) := by decide +kernel
theorem d_M_read_196 : decode prog_9_method_23_code 196 = .ok (.iastore, 1) := by decide +kernel
theorem d_M_read_197 : decode prog_9_method_23_code 197 = .ok (.aload_n 0, 1) := by decide +kernel
theorem d_M_read_198 : decode prog_9_method_23_code 198 = .ok (.getfield 32, 3) := by decide +kernel
theorem d_M_read_201 : decode prog_9_method_23_code 201 = .ok (.iload 4, 2) := by decide +kernel
theorem d_M_read_203 : decode prog_9_method_23_code 203 = .ok (.bipush 8, 2) := by decide +kernel
theorem d_M_read_205 : decode prog_9_method_23_code 205 = .ok (.irem, 1) := by decide +kernel
theorem d_M_read_206 : decode prog_9_method_23_code 206 = .ok (.iaload, 1) := by decide +kernel
theorem d_M_read_207 : decode prog_9_method_23_code 207 = .ok (.ireturn, 1) := by decide +kernel
theorem d_M_opening_0 : decode prog_9_method_11_code 0 = .ok (.aload_n 0, 1) := by decide +kernel
theorem d_M_opening_1 : decode prog_9_method_11_code 1 = .ok (.iload_n 1, 1) := by decide +kernel
theorem d_M_opening_2 : decode prog_9_method_11_code 2 = .ok (.invokevirtual 86, 3) := by decide +kernel
theorem d_M_opening_5 : decode prog_9_method_11_code 5 = .ok (.ifCond .eq 12, 3) := by decide +kernel
theorem d_M_opening_8 : decode prog_9_method_11_code 8 = .ok (.iload_n 2, 1) := by decide +kernel
theorem d_M_opening_9 : decode prog_9_method_11_code 9 = .ok (.iconst 0, 1) := by decide +kernel
theorem d_M_opening_10 : decode prog_9_method_11_code 10 = .ok (.iconst 5, 1) := by decide +kernel
theorem d_M_opening_11 : decode prog_9_method_11_code 11 = .ok (.invokestatic 78, 3) := by decide +kernel
theorem d_M_opening_14 : decode prog_9_method_11_code 14 = .ok (.ifCond .ne 5, 3) := by decide +kernel
theorem d_M_opening_17 : decode prog_9_method_11_code 17 = .ok (.iconst (-1), 1) := by decide +kernel
theorem d_M_opening_18 : decode prog_9_method_11_code 18 = .ok (.ireturn, 1) := by decide +kernel
theorem d_M_opening_19 : decode prog_9_method_11_code 19 = .ok (.aload_n 0, 1) := by decide +kernel
theorem d_M_opening_20 : decode prog_9_method_11_code 20 = .ok (.getfield 47, 3) := by decide +kernel
theorem d_M_opening_23 : decode prog_9_method_11_code 23 = .ok (.bipush 6, 2) := by decide +kernel
theorem d_M_opening_25 : decode prog_9_method_11_code 25 = .ok (.iload_n 1, 1) := by decide +kernel
theorem d_M_opening_26 : decode prog_9_method_11_code 26 = .ok (.imul, 1) := by decide +kernel
theorem d_M_opening_27 : decode prog_9_method_11_code 27 = .ok (.iload_n 2, 1) := by decide +kernel
theorem d_M_opening_28 : decode prog_9_method_11_code 28 = .ok (.iadd, 1) := by decide +kernel
theorem d_M_opening_29 : decode prog_9_method_11_code 29 = .ok (.iaload, 1) := by decide +kernel
theorem d_M_opening_30 : decode prog_9_method_11_code 30 = .ok (.ifCond .ge 8, 3) := by decide +kernel
theorem d_M_opening_33 : decode prog_9_method_11_code 33 = .ok (.bipush (-3), 2) := by decide +kernel
theorem d_M_opening_35 : decode prog_9_method_11_code 35 = .ok (.goto 14, 3) := by decide +kernel
theorem d_M_opening_38 : decode prog_9_method_11_code 38 = .ok (.aload_n 0, 1) := by decide +kernel
theorem d_M_opening_39 : decode prog_9_method_11_code 39 = .ok (.getfield 47, 3) := by decide +kernel
theorem d_M_opening_42 : decode prog_9_method_11_code 42 = .ok (.bipush 6, 2) := by decide +kernel
theorem d_M_opening_44 : decode prog_9_method_11_code 44 = .ok (.iload_n 1, 1) := by decide +kernel
theorem d_M_opening_45 : decode prog_9_method_11_code 45 = .ok (.imul, 1) := by decide +kernel
theorem d_M_opening_46 : decode prog_9_method_11_code 46 = .ok (.iload_n 2, 1) := by decide +kernel
theorem d_M_opening_47 : decode prog_9_method_11_code 47 = .ok (.iadd, 1) := by decide +kernel
theorem d_M_opening_48 : decode prog_9_method_11_code 48 = .ok (.iaload, 1) := by decide +kernel
theorem d_M_opening_49 : decode prog_9_method_11_code 49 = .ok (.ireturn, 1) := by decide +kernel
theorem d_M_get_0 : decode prog_9_method_16_code 0 = .ok (.iconst 0, 1) := by decide +kernel
theorem d_M_get_1 : decode prog_9_method_16_code 1 = .ok (.istore_n 3, 1) := by decide +kernel
theorem d_M_get_2 : decode prog_9_method_16_code 2 = .ok (.iload_n 3, 1) := by decide +kernel
theorem d_M_get_3 : decode prog_9_method_16_code 3 = .ok (.aload_n 0, 1) := by decide +kernel
theorem d_M_get_4 : decode prog_9_method_16_code 4 = .ok (.getfield 74, 3) := by decide +kernel
theorem d_M_get_7 : decode prog_9_method_16_code 7 = .ok (.if_icmp .ge 31, 3) := by decide +kernel
theorem d_M_get_10 : decode prog_9_method_16_code 10 = .ok (.aload_n 0, 1) := by decide +kernel
theorem d_M_get_11 : decode prog_9_method_16_code 11 = .ok (.getfield 26, 3) := by decide +kernel
theorem d_M_get_14 : decode prog_9_method_16_code 14 = .ok (.iload_n 3, 1) := by decide +kernel
theorem d_M_get_15 : decode prog_9_method_16_code 15 = .ok (.iaload, 1) := by decide +kernel
theorem d_M_get_16 : decode prog_9_method_16_code 16 = .ok (.iload_n 1, 1) := by decide +kernel
theorem d_M_get_17 : decode prog_9_method_16_code 17 = .ok (.bipush 8, 2) := by decide +kernel
theorem d_M_get_19 : decode prog_9_method_16_code 19 = .ok (.iload_n 2, 1) := by decide +kernel
theorem d_M_get_20 : decode prog_9_method_16_code 20 = .ok (.imul, 1) := by decide +kernel
theorem d_M_get_21 : decode prog_9_method_16_code 21 = .ok (.iadd, 1) := by decide +kernel
theorem d_M_get_22 : decode prog_9_method_16_code 22 = .ok (.if_icmp .ne 10, 3) := by decide +kernel
theorem d_M_get_25 : decode prog_9_method_16_code 25 = .ok (.aload_n 0, 1) := by decide +kernel
theorem d_M_get_26 : decode prog_9_method_16_code 26 = .ok (.iload_n 3, 1) := by decide +kernel
theorem d_M_get_27 : decode prog_9_method_16_code 27 = .ok (.invokevirtual 98, 3) := by decide +kernel
theorem d_M_get_30 : decode prog_9_method_16_code 30 = .ok (.iconst 1, 1) := by decide +kernel
theorem d_M_get_31 : decode prog_9_method_16_code 31 = .ok (.ireturn, 1) := by decide +kernel
theorem d_M_get_32 : decode prog_9_method_16_code 32 = .ok (.iinc 3 1, 3) := by decide +kernel
theorem d_M_get_35 : decode prog_9_method_16_code 35 = .ok (.goto (-33), 3) := by decide +kernel
theorem d_M_get_38 : decode prog_9_method_16_code 38 = .ok (.aload_n 0, 1) := by decide +kernel
theorem d_M_get_39 : decode prog_9_method_16_code 39 = .ok (.getfield 74, 3) := by decide +kernel
theorem d_M_get_42 : decode prog_9_method_16_code 42 = .ok (.iconst 5, 1) := by decide +kernel
theorem d_M_get_43 : decode prog_9_method_16_code 43 = .ok (.if_icmp .ne 27, 3) := by decide +kernel
theorem d_M_get_46 : decode prog_9_method_16_code 46 = .ok (.aload_n 0, 1) := by decide +kernel
theorem d_M_get_47 : decode prog_9_method_16_code 47 = .ok (.getfield 29, 3) := by decide +kernel
theorem d_M_get_50 : decode prog_9_method_16_code 50 = .ok (.iconst 4, 1) := by decide +kernel
theorem d_M_get_51 : decode prog_9_method_16_code 51 = .ok (.baload, 1) := by decide +kernel
theorem d_M_get_52 : decode prog_9_method_16_code 52 = .ok (.ifCond .eq 13, 3) := by decide +kernel
theorem d_M_get_55 : decode prog_9_method_16_code 55 = .ok (.aload_n 0, 1) := by decide +kernel
theorem d_M_get_56 : decode prog_9_method_16_code 56 = .ok (.iconst 4, 1) := by decide +kernel
theorem d_M_get_57 : decode prog_9_method_16_code 57 = .ok (.invokevirtual 102, 3) := by decide +kernel
theorem d_M_get_60 : decode prog_9_method_16_code 60 = .ok (.ifCond .ne 5, 3) := by decide +kernel
theorem d_M_get_63 : decode prog_9_method_16_code 63 = .ok (.iconst 0, 1) := by decide +kernel
theorem d_M_get_64 : decode prog_9_method_16_code 64 = .ok (.ireturn, 1) := by decide +kernel
theorem d_M_get_65 : decode prog_9_method_16_code 65 = .ok (.aload_n 0, 1) := by decide +kernel
theorem d_M_get_66 : decode prog_9_method_16_code 66 = .ok (.iconst 4, 1) := by decide +kernel
theorem d_M_get_67 : decode prog_9_method_16_code 67 = .ok (.putfield 74, 3) := by decide +kernel
theorem d_M_get_70 : decode prog_9_method_16_code 70 = .ok (.bipush 8, 2) := by decide +kernel
theorem d_M_get_72 : decode prog_9_method_16_code 72 = .ok (.iload_n 2, 1) := by decide +kernel
theorem d_M_get_73 : decode prog_9_method_16_code 73 = .ok (.imul, 1) := by decide +kernel
theorem d_M_get_74 : decode prog_9_method_16_code 74 = .ok (.aload_n 0, 1) := by decide +kernel
theorem d_M_get_75 : decode prog_9_method_16_code 75 = .ok (.getfield 20, 3) := by decide +kernel
theorem d_M_get_78 : decode prog_9_method_16_code 78 = .ok (.iload_n 1, 1) := by decide +kernel
theorem d_M_get_79 : decode prog_9_method_16_code 79 = .ok (.iaload, 1) := by decide +kernel
theorem d_M_get_80 : decode prog_9_method_16_code 80 = .ok (.if_icmp .ge 7, 3) := by decide +kernel
theorem d_M_get_83 : decode prog_9_method_16_code 83 = .ok (.iconst 1, 1) := by decide +kernel
theorem d_M_get_84 : decode prog_9_method_16_code 84 = .ok (.goto 4, 3) := by decide +kernel
theorem d_M_get_87 : decode prog_9_method_16_code 87 = .ok (.iconst 0, 1) := by decide +kernel
theorem d_M_get_88 : decode prog_9_method_16_code 88 = .ok (.istore_n 3, 1) := by decide +kernel
theorem d_M_get_89 : decode prog_9_method_16_code 89 = .ok (.iload_n 3, 1) := by decide +kernel
theorem d_M_get_90 : decode prog_9_method_16_code 90 = .ok (.ifCond .eq 15, 3) := by decide +kernel
theorem d_M_get_93 : decode prog_9_method_16_code 93 = .ok (.aload_n 0, 1) := by decide +kernel
theorem d_M_get_94 : decode prog_9_method_16_code 94 = .ok (.iconst 0, 1) := by decide +kernel
theorem d_M_get_95 : decode prog_9_method_16_code 95 = .ok (.iload_n 1, 1) := by decide +kernel
theorem d_M_get_96 : decode prog_9_method_16_code 96 = .ok (.iload_n 2, 1) := by decide +kernel
theorem d_M_get_97 : decode prog_9_method_16_code 97 = .ok (.invokevirtual 95, 3) := by decide +kernel
theorem d_M_get_100 : decode prog_9_method_16_code 100 = .ok (.ifCond .ne 5, 3) := by decide +kernel
theorem d_M_get_103 : decode prog_9_method_16_code 103 = .ok (.iconst 0, 1) := by decide +kernel
theorem d_M_get_104 : decode prog_9_method_16_code 104 = .ok (.ireturn, 1) := by decide +kernel
theorem d_M_get_105 : decode prog_9_method_16_code 105 = .ok (.aload_n 0, 1) := by decide +kernel
theorem d_M_get_106 : decode prog_9_method_16_code 106 = .ok (.getfield 26, 3) := by decide +kernel
theorem d_M_get_109 : decode prog_9_method_16_code 109 = .ok (.aload_n 0, 1) := by decide +kernel
theorem d_M_get_110 : decode prog_9_method_16_code 110 = .ok (.getfield 74, 3) := by decide +kernel
theorem d_M_get_113 : decode prog_9_method_16_code 113 = .ok (.iload_n 1, 1) := by decide +kernel
theorem d_M_get_114 : decode prog_9_method_16_code 114 = .ok (.bipush 8, 2) := by decide +kernel
theorem d_M_get_116 : decode prog_9_method_16_code 116 = .ok (.iload_n 2, 1) := by decide +kernel
theorem d_M_get_117 : decode prog_9_method_16_code 117 = .ok (.imul, 1) := by decide +kernel
theorem d_M_get_118 : decode prog_9_method_16_code 118 = .ok (.iadd, 1) := by decide +kernel
theorem d_M_get_119 : decode prog_9_method_16_code 119 = .ok (.iastore, 1) := by decide +kernel
theorem d_M_get_120 : decode prog_9_method_16_code 120 = .ok (.aload_n 0, 1) := by decide +kernel
theorem d_M_get_121 : decode prog_9_method_16_code 121 = .ok (.getfield 29, 3) := by decide +kernel
theorem d_M_get_124 : decode prog_9_method_16_code 124 = .ok (.aload_n 0, 1) := by decide +kernel
theorem d_M_get_125 : decode prog_9_method_16_code 125 = .ok (.getfield 74, 3) := by decide +kernel
theorem d_M_get_128 : decode prog_9_method_16_code 128 = .ok (.iconst 0, 1) := by decide +kernel
theorem d_M_get_129 : decode prog_9_method_16_code 129 = .ok (.bastore, 1) := by decide +kernel
theorem d_M_get_130 : decode prog_9_method_16_code 130 = .ok (.iconst 0, 1) := by decide +kernel
theorem d_M_get_131 : decode prog_9_method_16_code 131 = .ok (.istore 4, 2) := by decide +kernel
theorem d_M_get_133 : decode prog_9_method_16_code 133 = .ok (.iload 4, 2) := by decide +kernel
theorem d_M_get_135 : decode prog_9_method_16_code 135 = .ok (.bipush 8, 2) := by decide +kernel
theorem d_M_get_137 : decode prog_9_method_16_code 137 = .ok (.if_icmp .ge 64, 3) := by decide +kernel
theorem d_M_get_140 : decode prog_9_method_16_code 140 = .ok (.bipush 8, 2) := by decide +kernel
theorem d_M_get_142 : decode prog_9_method_16_code 142 = .ok (.iload_n 2, 1) := by decide +kernel
theorem d_M_get_143 : decode prog_9_method_16_code 143 = .ok (.imul, 1) := by decide +kernel
theorem d_M_get_144 : decode prog_9_method_16_code 144 = .ok (.iload 4, 2) := by decide +kernel
theorem d_M_get_146 : decode prog_9_method_16_code 146 = .ok (.iadd, 1) := by decide +kernel
theorem d_M_get_147 : decode prog_9_method_16_code 147 = .ok (.istore 5, 2) := by decide +kernel
theorem d_M_get_149 : decode prog_9_method_16_code 149 = .ok (.aload_n 0, 1) := by decide +kernel
theorem d_M_get_150 : decode prog_9_method_16_code 150 = .ok (.getfield 32, 3) := by decide +kernel
theorem d_M_get_153 : decode prog_9_method_16_code 153 = .ok (.bipush 8, 2) := by decide +kernel
theorem d_M_get_155 : decode prog_9_method_16_code 155 = .ok (.aload_n 0, 1) := by decide +kernel
theorem d_M_get_156 : decode prog_9_method_16_code 156 = .ok (.getfield 74, 3) := by decide +kernel
theorem d_M_get_159 : decode prog_9_method_16_code 159 = .ok (.imul, 1) := by decide +kernel
theorem d_M_get_160 : decode prog_9_method_16_code 160 = .ok (.iload 4, 2) := by decide +kernel
theorem d_M_get_162 : decode prog_9_method_16_code 162 = .ok (.iadd, 1) := by decide +kernel
theorem d_M_get_163 : decode prog_9_method_16_code 163 = .ok (.iload_n 3, 1) := by decide +kernel
theorem d_M_get_164 : decode prog_9_method_16_code 164 = .ok (.ifCond .eq 29, 3) := by decide +kernel
theorem d_M_get_167 : decode prog_9_method_16_code 167 = .ok (.iload 5, 2) := by decide +kernel
theorem d_M_get_169 : decode prog_9_method_16_code 169 = .ok (.aload_n 0, 1) := by decide +kernel
theorem d_M_get_170 : decode prog_9_method_16_code 170 = .ok (.getfield 20, 3) := by decide +kernel
theorem d_M_get_173 : decode prog_9_method_16_code 173 = .ok (.iload_n 1, 1) := by decide +kernel
theorem d_M_get_174 : decode prog_9_method_16_code 174 = .ok (.iaload, 1) := by decide +kernel
theorem d_M_get_175 : decode prog_9_method_16_code 175 = .ok (.if_icmp .ge 18, 3) := by decide +kernel
theorem d_M_get_178 : decode prog_9_method_16_code 178 = .ok (.aload_n 0, 1) := by decide +kernel
theorem d_M_get_179 : decode prog_9_method_16_code 179 = .ok (.getfield 17, 3) := by decide +kernel
theorem d_M_get_182 : decode prog_9_method_16_code 182 = .ok (.bipush 32, 2) := by decide +kernel
theorem d_M_get_184 : decode prog_9_method_16_code 184 = .ok (.iload_n 1, 1) := by decide +kernel
theorem d_M_get_185 : decode prog_9_method_16_code 185 = .ok (.imul, 1) := by decide +kernel
theorem d_M_get_186 : decode prog_9_method_16_code 186 = .ok (.iload 5, 2) := by decide +kernel
theorem d_M_get_188 : decode prog_9_method_16_code 188 = .ok (.iadd, 1) := by decide +kernel
theorem d_M_get_189 : decode prog_9_method_16_code 189 = .ok (.iaload, 1) := by decide +kernel
theorem d_M_get_190 : decode prog_9_method_16_code 190 = .ok (.goto 4, 3) := by decide +kernel
theorem d_M_get_193 : decode prog_9_method_16_code 193 = .ok (.iconst 0, 1) := by decide +kernel
theorem d_M_get_194 : decode prog_9_method_16_code 194 = .ok (.iastore, 1) := by decide +kernel
theorem d_M_get_195 : decode prog_9_method_16_code 195 = .ok (.iinc 4 1, 3) := by decide +kernel
theorem d_M_get_198 : decode prog_9_method_16_code 198 = .ok (.goto (-65), 3) := by decide +kernel
theorem d_M_get_201 : decode prog_9_method_16_code 201 = .ok (.aload_n 0, 1) := by decide +kernel
theorem d_M_get_202 : decode prog_9_method_16_code 202 = .ok (.dup, 1) := by decide +kernel
theorem d_M_get_203 : decode prog_9_method_16_code 203 = .ok (.getfield 74, 3) := by decide +kernel
theorem d_M_get_206 : decode prog_9_method_16_code 206 = .ok (.iconst 1, 1) := by decide +kernel
theorem d_M_get_207 : decode prog_9_method_16_code 207 = .ok (.iadd, 1) := by decide +kernel
theorem d_M_get_208 : decode prog_9_method_16_code 208 = .ok (.putfield 74, 3) := by decide +kernel
theorem d_M_get_211 : decode prog_9_method_16_code 211 = .ok (.aload_n 0, 1) := by decide +kernel
theorem d_M_get_212 : decode prog_9_method_16_code 212 = .ok (.aload_n 0, 1) := by decide +kernel
theorem d_M_get_213 : decode prog_9_method_16_code 213 = .ok (.getfield 74, 3) := by decide +kernel
theorem d_M_get_216 : decode prog_9_method_16_code 216 = .ok (.iconst 1, 1) := by decide +kernel
theorem d_M_get_217 : decode prog_9_method_16_code 217 = .ok (.isub, 1) := by decide +kernel
theorem d_M_get_218 : decode prog_9_method_16_code 218 = .ok (.invokevirtual 98, 3) := by decide +kernel
theorem d_M_get_221 : decode prog_9_method_16_code 221 = .ok (.iconst 1, 1) := by decide +kernel
theorem d_M_get_222 : decode prog_9_method_16_code 222 = .ok (.ireturn, 1) := by decide +kernel
theorem d_M_toFront_0 : decode prog_9_method_15_code 0 = .ok (.aload_n 0, 1) := by decide +kernel
theorem d_M_toFront_1 : decode prog_9_method_15_code 1 = .ok (.getfield 26, 3) := by decide +kernel
theorem d_M_toFront_4 : decode prog_9_method_15_code 4 = .ok (.iload_n 1, 1) := by decide +kernel
theorem d_M_toFront_5 : decode prog_9_method_15_code 5 = .ok (.iaload, 1) := by decide +kernel
theorem d_M_toFront_6 : decode prog_9_method_15_code 6 = .ok (.istore_n 2, 1) := by decide +kernel
theorem d_M_toFront_7 : decode prog_9_method_15_code 7 = .ok (.aload_n 0, 1) := by decide +kernel
theorem d_M_toFront_8 : decode prog_9_method_15_code 8 = .ok (.getfield 29, 3) := by decide +kernel
theorem d_M_toFront_11 : decode prog_9_method_15_code 11 = .ok (.iload_n 1, 1) := by decide +kernel
theorem d_M_toFront_12 : decode prog_9_method_15_code 12 = .ok (.baload, 1) := by decide +kernel
theorem d_M_toFront_13 : decode prog_9_method_15_code 13 = .ok (.istore_n 3, 1) := by decide +kernel
theorem d_M_toFront_14 : decode prog_9_method_15_code 14 = .ok (.iconst 0, 1) := by decide +kernel
theorem d_M_toFront_15 : decode prog_9_method_15_code 15 = .ok (.istore 4, 2) := by decide +kernel
theorem d_M_toFront_17 : decode prog_9_method_15_code 17 = .ok (.iload 4, 2) := by decide +kernel
theorem d_M_toFront_19 : decode prog_9_method_15_code 19 = .ok (.bipush 8, 2) := by decide +kernel
theorem d_M_toFront_21 : decode prog_9_method_15_code 21 = .ok (.if_icmp .ge 31, 3) := by decide +kernel
theorem d_M_toFront_24 : decode prog_9_method_15_code 24 = .ok (.aload_n 0, 1) := by decide +kernel
theorem d_M_toFront_25 : decode prog_9_method_15_code 25 = .ok (.getfield 32, 3) := by decide +kernel
theorem d_M_toFront_28 : decode prog_9_method_15_code 28 = .ok (.bipush 40, 2) := by decide +kernel
theorem d_M_toFront_30 : decode prog_9_method_15_code 30 = .ok (.iload 4, 2) := by decide +kernel
theorem d_M_toFront_32 : decode prog_9_method_15_code 32 = .ok (.iadd, 1) := by decide +kernel
theorem d_M_toFront_33 : decode prog_9_method_15_code 33 = .ok (.aload_n 0, 1) := by decide +kernel
theorem d_M_toFront_34 : decode prog_9_method_15_code 34 = .ok (.getfield 32, 3) := by decide +kernel
theorem d_M_toFront_37 : decode prog_9_method_15_code 37 = .ok (.bipush 8, 2) := by decide +kernel
theorem d_M_toFront_39 : decode prog_9_method_15_code 39 = .ok (.iload_n 1, 1) := by decide +kernel
theorem d_M_toFront_40 : decode prog_9_method_15_code 40 = .ok (.imul, 1) := by decide +kernel
theorem d_M_toFront_41 : decode prog_9_method_15_code 41 = .ok (.iload 4, 2) := by decide +kernel
theorem d_M_toFront_43 : decode prog_9_method_15_code 43 = .ok (.iadd, 1) := by decide +kernel
theorem d_M_toFront_44 : decode prog_9_method_15_code 44 = .ok (.iaload, 1) := by decide +kernel
theorem d_M_toFront_45 : decode prog_9_method_15_code 45 = .ok (.iastore, 1) := by decide +kernel
theorem d_M_toFront_46 : decode prog_9_method_15_code 46 = .ok (.iinc 4 1, 3) := by decide +kernel
theorem d_M_toFront_49 : decode prog_9_method_15_code 49 = .ok (.goto (-32), 3) := by decide +kernel
theorem d_M_toFront_52 : decode prog_9_method_15_code 52 = .ok (.iload_n 1, 1) := by decide +kernel
theorem d_M_toFront_53 : decode prog_9_method_15_code 53 = .ok (.istore 4, 2) := by decide +kernel
theorem d_M_toFront_55 : decode prog_9_method_15_code 55 = .ok (.iload 4, 2) := by decide +kernel
theorem d_M_toFront_57 : decode prog_9_method_15_code 57 = .ok (.ifCond .le 86, 3) := by decide +kernel
theorem d_M_toFront_60 : decode prog_9_method_15_code 60 = .ok (.aload_n 0, 1) := by decide +kernel
theorem d_M_toFront_61 : decode prog_9_method_15_code 61 = .ok (.getfield 26, 3) := by decide +kernel
theorem d_M_toFront_64 : decode prog_9_method_15_code 64 = .ok (.iload 4, 2) := by decide +kernel
theorem d_M_toFront_66 : decode prog_9_method_15_code 66 = .ok (.aload_n 0, 1) := by decide +kernel
theorem d_M_toFront_67 : decode prog_9_method_15_code 67 = .ok (.getfield 26, 3) := by decide +kernel
theorem d_M_toFront_70 : decode prog_9_method_15_code 70 = .ok (.iload 4, 2) := by decide +kernel
theorem d_M_toFront_72 : decode prog_9_method_15_code 72 = .ok (.iconst 1, 1) := by decide +kernel
theorem d_M_toFront_73 : decode prog_9_method_15_code 73 = .ok (.isub, 1) := by decide +kernel
theorem d_M_toFront_74 : decode prog_9_method_15_code 74 = .ok (.iaload, 1) := by decide +kernel
theorem d_M_toFront_75 : decode prog_9_method_15_code 75 = .ok (.iastore, 1) := by decide +kernel
theorem d_M_toFront_76 : decode prog_9_method_15_code 76 = .ok (.aload_n 0, 1) := by decide +kernel
theorem d_M_toFront_77 : decode prog_9_method_15_code 77 = .ok (.getfield 29, 3) := by decide +kernel
theorem d_M_toFront_80 : decode prog_9_method_15_code 80 = .ok (.iload 4, 2) := by decide +kernel
theorem d_M_toFront_82 : decode prog_9_method_15_code 82 = .ok (.aload_n 0, 1) := by decide +kernel
theorem d_M_toFront_83 : decode prog_9_method_15_code 83 = .ok (.getfield 29, 3) := by decide +kernel
theorem d_M_toFront_86 : decode prog_9_method_15_code 86 = .ok (.iload 4, 2) := by decide +kernel
theorem d_M_toFront_88 : decode prog_9_method_15_code 88 = .ok (.iconst 1, 1) := by decide +kernel
theorem d_M_toFront_89 : decode prog_9_method_15_code 89 = .ok (.isub, 1) := by decide +kernel
theorem d_M_toFront_90 : decode prog_9_method_15_code 90 = .ok (.baload, 1) := by decide +kernel
theorem d_M_toFront_91 : decode prog_9_method_15_code 91 = .ok (.bastore, 1) := by decide +kernel
theorem d_M_toFront_92 : decode prog_9_method_15_code 92 = .ok (.iconst 0, 1) := by decide +kernel
theorem d_M_toFront_93 : decode prog_9_method_15_code 93 = .ok (.istore 5, 2) := by decide +kernel
theorem d_M_toFront_95 : decode prog_9_method_15_code 95 = .ok (.iload 5, 2) := by decide +kernel
theorem d_M_toFront_97 : decode prog_9_method_15_code 97 = .ok (.bipush 8, 2) := by decide +kernel
theorem d_M_toFront_99 : decode prog_9_method_15_code 99 = .ok (.if_icmp .ge 38, 3) := by decide +kernel
theorem d_M_toFront_102 : decode prog_9_method_15_code 102 = .ok (.aload_n 0, 1) := by decide +kernel
theorem d_M_toFront_103 : decode prog_9_method_15_code 103 = .ok (.getfield 32, 3) := by decide +kernel
theorem d_M_toFront_106 : decode prog_9_method_15_code 106 = .ok (.bipush 8, 2) := by decide +kernel
theorem d_M_toFront_108 : decode prog_9_method_15_code 108 = .ok (.iload 4, 2) := by decide +kernel
theorem d_M_toFront_110 : decode prog_9_method_15_code 110 = .ok (.imul, 1) := by decide +kernel
theorem d_M_toFront_111 : decode prog_9_method_15_code 111 = .ok (.iload 5, 2) := by decide +kernel
theorem d_M_toFront_113 : decode prog_9_method_15_code 113 = .ok (.iadd, 1) := by decide +kernel
theorem d_M_toFront_114 : decode prog_9_method_15_code 114 = .ok (.aload_n 0, 1) := by decide +kernel
theorem d_M_toFront_115 : decode prog_9_method_15_code 115 = .ok (.getfield 32, 3) := by decide +kernel
theorem d_M_toFront_118 : decode prog_9_method_15_code 118 = .ok (.bipush 8, 2) := by decide +kernel
theorem d_M_toFront_120 : decode prog_9_method_15_code 120 = .ok (.iload 4, 2) := by decide +kernel
theorem d_M_toFront_122 : decode prog_9_method_15_code 122 = .ok (.imul, 1) := by decide +kernel
theorem d_M_toFront_123 : decode prog_9_method_15_code 123 = .ok (.bipush 8, 2) := by decide +kernel
theorem d_M_toFront_125 : decode prog_9_method_15_code 125 = .ok (.isub, 1) := by decide +kernel
theorem d_M_toFront_126 : decode prog_9_method_15_code 126 = .ok (.iload 5, 2) := by decide +kernel
theorem d_M_toFront_128 : decode prog_9_method_15_code 128 = .ok (.iadd, 1) := by decide +kernel
theorem d_M_toFront_129 : decode prog_9_method_15_code 129 = .ok (.iaload, 1) := by decide +kernel
theorem d_M_toFront_130 : decode prog_9_method_15_code 130 = .ok (.iastore, 1) := by decide +kernel
theorem d_M_toFront_131 : decode prog_9_method_15_code 131 = .ok (.iinc 5 1, 3) := by decide +kernel
theorem d_M_toFront_134 : decode prog_9_method_15_code 134 = .ok (.goto (-39), 3) := by decide +kernel
theorem d_M_toFront_137 : decode prog_9_method_15_code 137 = .ok (.iinc 4 (-1), 3) := by decide +kernel
theorem d_M_toFront_140 : decode prog_9_method_15_code 140 = .ok (.goto (-85), 3) := by decide +kernel
theorem d_M_toFront_143 : decode prog_9_method_15_code 143 = .ok (.aload_n 0, 1) := by decide +kernel
theorem d_M_toFront_144 : decode prog_9_method_15_code 144 = .ok (.getfield 26, 3) := by decide +kernel
theorem d_M_toFront_147 : decode prog_9_method_15_code 147 = .ok (.iconst 0, 1) := by decide +kernel
theorem d_M_toFront_148 : decode prog_9_method_15_code 148 = .ok (.iload_n 2, 1) := by decide +kernel
theorem d_M_toFront_149 : decode prog_9_method_15_code 149 = .ok (.iastore, 1) := by decide +kernel
theorem d_M_toFront_150 : decode prog_9_method_15_code 150 = .ok (.aload_n 0, 1) := by decide +kernel
theorem d_M_toFront_151 : decode prog_9_method_15_code 151 = .ok (.getfield 29, 3) := by decide +kernel
theorem d_M_toFront_154 : decode prog_9_method_15_code 154 = .ok (.iconst 0, 1) := by decide +kernel
theorem d_M_toFront_155 : decode prog_9_method_15_code 155 = .ok (.iload_n 3, 1) := by decide +kernel
theorem d_M_toFront_156 : decode prog_9_method_15_code 156 = .ok (.bastore, 1) := by decide +kernel
theorem d_M_toFront_157 : decode prog_9_method_15_code 157 = .ok (.iconst 0, 1) := by decide +kernel
theorem d_M_toFront_158 : decode prog_9_method_15_code 158 = .ok (.istore 4, 2) := by decide +kernel
theorem d_M_toFront_160 : decode prog_9_method_15_code 160 = .ok (.iload 4, 2) := by decide +kernel
theorem d_M_toFront_162 : decode prog_9_method_15_code 162 = .ok (.bipush 8, 2) := by decide +kernel
theorem d_M_toFront_164 : decode prog_9_method_15_code 164 = .ok (.if_icmp .ge 26, 3) := by decide +kernel
theorem d_M_toFront_167 : decode prog_9_method_15_code 167 = .ok (.aload_n 0, 1) := by decide +kernel
theorem d_M_toFront_168 : decode prog_9_method_15_code 168 = .ok (.getfield 32, 3) := by decide +kernel
theorem d_M_toFront_171 : decode prog_9_method_15_code 171 = .ok (.iload 4, 2) := by decide +kernel
theorem d_M_toFront_173 : decode prog_9_method_15_code 173 = .ok (.aload_n 0, 1) := by decide +kernel
theorem d_M_toFront_174 : decode prog_9_method_15_code 174 = .ok (.getfield 32, 3) := by decide +kernel
theorem d_M_toFront_177 : decode prog_9_method_15_code 177 = .ok (.bipush 40, 2) := by decide +kernel
theorem d_M_toFront_179 : decode prog_9_method_15_code 179 = .ok (.iload 4, 2) := by decide +kernel
theorem d_M_toFront_181 : decode prog_9_method_15_code 181 = .ok (.iadd, 1) := by decide +kernel
theorem d_M_toFront_182 : decode prog_9_method_15_code 182 = .ok (.iaload, 1) := by decide +kernel
theorem d_M_toFront_183 : decode prog_9_method_15_code 183 = .ok (.iastore, 1) := by decide +kernel
theorem d_M_toFront_184 : decode prog_9_method_15_code 184 = .ok (.iinc 4 1, 3) := by decide +kernel
theorem d_M_toFront_187 : decode prog_9_method_15_code 187 = .ok (.goto (-27), 3) := by decide +kernel
theorem d_M_toFront_190 : decode prog_9_method_15_code 190 = .ok (.return_, 1) := by decide +kernel
theorem d_M_writeBack_0 : decode prog_9_method_13_code 0 = .ok (.aload_n 0, 1) := by decide +kernel
theorem d_M_writeBack_1 : decode prog_9_method_13_code 1 = .ok (.getfield 26, 3) := by decide +kernel
theorem d_M_writeBack_4 : decode prog_9_method_13_code 4 = .ok (.iload_n 1, 1) := by decide +kernel
theorem d_M_writeBack_5 : decode prog_9_method_13_code 5 = .ok (.iaload, 1) := by decide +kernel
theorem d_M_writeBack_6 : decode prog_9_method_13_code 6 = .ok (.bipush 7, 2) := by decide +kernel
theorem d_M_writeBack_8 : decode prog_9_method_13_code 8 = .ok (.iand, 1) := by decide +kernel
theorem d_M_writeBack_9 : decode prog_9_method_13_code 9 = .ok (.istore_n 2, 1) := by decide +kernel
theorem d_M_writeBack_10 : decode prog_9_method_13_code 10 = .ok (.aload_n 0, 1) := by decide +kernel
theorem d_M_writeBack_11 : decode prog_9_method_13_code 11 = .ok (.getfield 26, 3) := by decide +kernel
theorem d_M_writeBack_14 : decode prog_9_method_13_code 14 = .ok (.iload_n 1, 1) := by decide +kernel
theorem d_M_writeBack_15 : decode prog_9_method_13_code 15 = .ok (.iaload, 1) := by decide +kernel
theorem d_M_writeBack_16 : decode prog_9_method_13_code 16 = .ok (.iconst 3, 1) := by decide +kernel
theorem d_M_writeBack_17 : decode prog_9_method_13_code 17 = .ok (.ishr, 1) := by decide +kernel
theorem d_M_writeBack_18 : decode prog_9_method_13_code 18 = .ok (.istore_n 3, 1) := by decide +kernel
theorem d_M_writeBack_19 : decode prog_9_method_13_code 19 = .ok (.aload_n 0, 1) := by decide +kernel
theorem d_M_writeBack_20 : decode prog_9_method_13_code 20 = .ok (.iconst 1, 1) := by decide +kernel
theorem d_M_writeBack_21 : decode prog_9_method_13_code 21 = .ok (.iload_n 2, 1) := by decide +kernel
theorem d_M_writeBack_22 : decode prog_9_method_13_code 22 = .ok (.iload_n 3, 1) := by decide +kernel
theorem d_M_writeBack_23 : decode prog_9_method_13_code 23 = .ok (.invokevirtual 95, 3) := by decide +kernel
theorem d_M_writeBack_26 : decode prog_9_method_13_code 26 = .ok (.ifCond .ne 5, 3) := by decide +kernel
theorem d_M_writeBack_29 : decode prog_9_method_13_code 29 = .ok (.iconst 0, 1) := by decide +kernel
theorem d_M_writeBack_30 : decode prog_9_method_13_code 30 = .ok (.ireturn, 1) := by decide +kernel
theorem d_M_writeBack_31 : decode prog_9_method_13_code 31 = .ok (.iconst 0, 1) := by decide +kernel
theorem d_M_writeBack_32 : decode prog_9_method_13_code 32 = .ok (.istore 4, 2) := by decide +kernel
theorem d_M_writeBack_34 : decode prog_9_method_13_code 34 = .ok (.iload 4, 2) := by decide +kernel
theorem d_M_writeBack_36 : decode prog_9_method_13_code 36 = .ok (.bipush 8, 2) := by decide +kernel
theorem d_M_writeBack_38 : decode prog_9_method_13_code 38 = .ok (.if_icmp .ge 77, 3) := by decide +kernel
theorem d_M_writeBack_41 : decode prog_9_method_13_code 41 = .ok (.bipush 8, 2) := by decide +kernel
theorem d_M_writeBack_43 : decode prog_9_method_13_code 43 = .ok (.iload_n 3, 1) := by decide +kernel
theorem d_M_writeBack_44 : decode prog_9_method_13_code 44 = .ok (.imul, 1) := by decide +kernel
theorem d_M_writeBack_45 : decode prog_9_method_13_code 45 = .ok (.iload 4, 2) := by decide +kernel
theorem d_M_writeBack_47 : decode prog_9_method_13_code 47 = .ok (.iadd, 1) := by decide +kernel
theorem d_M_writeBack_48 : decode prog_9_method_13_code 48 = .ok (.istore 5, 2) := by decide +kernel
theorem d_M_writeBack_50 : decode prog_9_method_13_code 50 = .ok (.iload 5, 2) := by decide +kernel
theorem d_M_writeBack_52 : decode prog_9_method_13_code 52 = .ok (.aload_n 0, 1) := by decide +kernel
theorem d_M_writeBack_53 : decode prog_9_method_13_code 53 = .ok (.getfield 20, 3) := by decide +kernel
theorem d_M_writeBack_56 : decode prog_9_method_13_code 56 = .ok (.iload_n 2, 1) := by decide +kernel
theorem d_M_writeBack_57 : decode prog_9_method_13_code 57 = .ok (.iaload, 1) := by decide +kernel
theorem d_M_writeBack_58 : decode prog_9_method_13_code 58 = .ok (.if_icmp .lt 6, 3) := by decide +kernel
theorem d_M_writeBack_61 : decode prog_9_method_13_code 61 = .ok (.goto 48, 3) := by decide +kernel
theorem d_M_writeBack_64 : decode prog_9_method_13_code 64 = .ok (.aload_n 0, 1) := by decide +kernel
theorem d_M_writeBack_65 : decode prog_9_method_13_code 65 = .ok (.getfield 17, 3) := by decide +kernel
theorem d_M_writeBack_68 : decode prog_9_method_13_code 68 = .ok (.bipush 32, 2) := by decide +kernel
theorem d_M_writeBack_70 : decode prog_9_method_13_code 70 = .ok (.iload_n 2, 1) := by decide +kernel
theorem d_M_writeBack_71 : decode prog_9_method_13_code 71 = .ok (.imul, 1) := by decide +kernel
theorem d_M_writeBack_72 : decode prog_9_method_13_code 72 = .ok (.iload 5, 2) := by decide +kernel
theorem d_M_writeBack_74 : decode prog_9_method_13_code 74 = .ok (.iadd, 1) := by decide +kernel
theorem d_M_writeBack_75 : decode prog_9_method_13_code 75 = .ok (.aload_n 0, 1) := by decide +kernel
theorem d_M_writeBack_76 : decode prog_9_method_13_code 76 = .ok (.getfield 32, 3) := by decide +kernel
theorem d_M_writeBack_79 : decode prog_9_method_13_code 79 = .ok (.bipush 8, 2) := by decide +kernel
theorem d_M_writeBack_81 : decode prog_9_method_13_code 81 = .ok (.iload_n 1, 1) := by decide +kernel
theorem d_M_writeBack_82 : decode prog_9_method_13_code 82 = .ok (.imul, 1) := by decide +kernel
theorem d_M_writeBack_83 : decode prog_9_method_13_code 83 = .ok (.iload 4, 2) := by decide +kernel
theorem d_M_writeBack_85 : decode prog_9_method_13_code 85 = .ok (.iadd, 1) := by decide +kernel
theorem d_M_writeBack_86 : decode prog_9_method_13_code 86 = .ok (.iaload, 1) := by decide +kernel
theorem d_M_writeBack_87 : decode prog_9_method_13_code 87 = .ok (.iastore, 1) := by decide +kernel
theorem d_M_writeBack_88 : decode prog_9_method_13_code 88 = .ok (.aload_n 0, 1) := by decide +kernel
theorem d_M_writeBack_89 : decode prog_9_method_13_code 89 = .ok (.getfield 13, 3) := by decide +kernel
theorem d_M_writeBack_92 : decode prog_9_method_13_code 92 = .ok (.iload_n 2, 1) := by decide +kernel
theorem d_M_writeBack_93 : decode prog_9_method_13_code 93 = .ok (.iaload, 1) := by decide +kernel
theorem d_M_writeBack_94 : decode prog_9_method_13_code 94 = .ok (.iload 5, 2) := by decide +kernel
theorem d_M_writeBack_96 : decode prog_9_method_13_code 96 = .ok (.if_icmp .gt 13, 3) := by decide +kernel
theorem d_M_writeBack_99 : decode prog_9_method_13_code 99 = .ok (.aload_n 0, 1) := by decide +kernel
theorem d_M_writeBack_100 : decode prog_9_method_13_code 100 = .ok (.getfield 13, 3) := by decide +kernel
theorem d_M_writeBack_103 : decode prog_9_method_13_code 103 = .ok (.iload_n 2, 1) := by decide +kernel
theorem d_M_writeBack_104 : decode prog_9_method_13_code 104 = .ok (.iload 5, 2) := by decide +kernel
theorem d_M_writeBack_106 : decode prog_9_method_13_code 106 = .ok (.iconst 1, 1) := by decide +kernel
theorem d_M_writeBack_107 : decode prog_9_method_13_code 107 = .ok (.iadd, 1) := by decide +kernel
theorem d_M_writeBack_108 : decode prog_9_method_13_code 108 = .ok (.iastore, 1) := by decide +kernel
theorem d_M_writeBack_109 : decode prog_9_method_13_code 109 = .ok (.iinc 4 1, 3) := by decide +kernel
theorem d_M_writeBack_112 : decode prog_9_method_13_code 112 = .ok (.goto (-78), 3) := by decide +kernel
theorem d_M_writeBack_115 : decode prog_9_method_13_code 115 = .ok (.aload_n 0, 1) := by decide +kernel
theorem d_M_writeBack_116 : decode prog_9_method_13_code 116 = .ok (.getfield 29, 3) := by decide +kernel
theorem d_M_writeBack_119 : decode prog_9_method_13_code 119 = .ok (.iload_n 1, 1) := by decide +kernel
theorem d_M_writeBack_120 : decode prog_9_method_13_code 120 = .ok (.iconst 0, 1) := by decide +kernel
theorem d_M_writeBack_121 : decode prog_9_method_13_code 121 = .ok (.bastore, 1) := by decide +kernel
theorem d_M_writeBack_122 : decode prog_9_method_13_code 122 = .ok (.iconst 1, 1) := by decide +kernel
theorem d_M_writeBack_123 : decode prog_9_method_13_code 123 = .ok (.ireturn, 1) := by decide +kernel
theorem d_M_write_0 : decode prog_9_method_24_code 0 = .ok (.aload_n 0, 1) := by decide +kernel
theorem d_M_write_1 : decode prog_9_method_24_code 1 = .ok (.iload_n 1, 1) := by decide +kernel
theorem d_M_write_2 : decode prog_9_method_24_code 2 = .ok (.invokevirtual 86, 3) := by decide +kernel
theorem d_M_write_5 : decode prog_9_method_24_code 5 = .ok (.ifCond .eq 16, 3) := by decide +kernel
theorem d_M_write_8 : decode prog_9_method_24_code 8 = .ok (.iload_n 3, 1) := by decide +kernel
theorem d_M_write_9 : decode prog_9_method_24_code 9 = .ok (.iconst 0, 1) := by decide +kernel
theorem d_M_write_10 : decode prog_9_method_24_code 10 = .ok (.sipush 255, 3) := by decide +kernel
theorem d_M_write_13 : decode prog_9_method_24_code 13 = .ok (.invokestatic 78, 3) := by decide +kernel
theorem d_M_write_16 : decode prog_9_method_24_code 16 = .ok (.ifCond .ne 5, 3) := by decide +kernel
theorem d_M_write_19 : decode prog_9_method_24_code 19 = .ok (.iconst (-1), 1) := by decide +kernel
theorem d_M_write_20 : decode prog_9_method_24_code 20 = .ok (.ireturn, 1) := by decide +kernel
theorem d_M_write_21 : decode prog_9_method_24_code 21 = .ok (.aload_n 0, 1) := by decide +kernel
theorem d_M_write_22 : decode prog_9_method_24_code 22 = .ok (.iload_n 1, 1) := by decide +kernel
theorem d_M_write_23 : decode prog_9_method_24_code 23 = .ok (.iload_n 2, 1) := by decide +kernel
theorem d_M_write_24 : decode prog_9_method_24_code 24 = .ok (.invokevirtual 130, 3) := by decide +kernel
theorem d_M_write_27 : decode prog_9_method_24_code 27 = .ok (.istore 4, 2) := by decide +kernel
theorem d_M_write_29 : decode prog_9_method_24_code 29 = .ok (.iload 4, 2) := by decide +kernel
theorem d_M_write_31 : decode prog_9_method_24_code 31 = .ok (.ifCond .ge 6, 3) := by decide +kernel
theorem d_M_write_34 : decode prog_9_method_24_code 34 = .ok (.iload 4, 2) := by decide +kernel
theorem d_M_write_36 : decode prog_9_method_24_code 36 = .ok (.ireturn, 1) := by decide +kernel
theorem d_M_write_37 : decode prog_9_method_24_code 37 = .ok (.aload_n 0, 1) := by decide +kernel
theorem d_M_write_38 : decode prog_9_method_24_code 38 = .ok (.getfield 56, 3) := by decide +kernel
theorem d_M_write_41 : decode prog_9_method_24_code 41 = .ok (.iload 4, 2) := by decide +kernel
theorem d_M_write_43 : decode prog_9_method_24_code 43 = .ok (.iaload, 1) := by decide +kernel
theorem d_M_write_44 : decode prog_9_method_24_code 44 = .ok (.iconst 2, 1) := by decide +kernel
theorem d_M_write_45 : decode prog_9_method_24_code 45 = .ok (.iand, 1) := by decide +kernel
theorem d_M_write_46 : decode prog_9_method_24_code 46 = .ok (.ifCond .ne 6, 3) := by decide +kernel
theorem d_M_write_49 : decode prog_9_method_24_code 49 = .ok (.bipush (-3), 2) := by decide +kernel
theorem d_M_write_51 : decode prog_9_method_24_code 51 = .ok (.ireturn, 1) := by decide +kernel
theorem d_M_write_52 : decode prog_9_method_24_code 52 = .ok (.aload_n 0, 1) := by decide +kernel
theorem d_M_write_53 : decode prog_9_method_24_code 53 = .ok (.getfield 53, 3) := by decide +kernel
theorem d_M_write_56 : decode prog_9_method_24_code 56 = .ok (.iload 4, 2) := by decide +kernel
theorem d_M_write_58 : decode prog_9_method_24_code 58 = .ok (.iaload, 1) := by decide +kernel
theorem d_M_write_59 : decode prog_9_method_24_code 59 = .ok (.istore 5, 2) := by decide +kernel
theorem d_M_write_61 : decode prog_9_method_24_code 61 = .ok (.aload_n 0, 1) := by decide +kernel
theorem d_M_write_62 : decode prog_9_method_24_code 62 = .ok (.getfield 50, 3) := by decide +kernel
theorem d_M_write_65 : decode prog_9_method_24_code 65 = .ok (.iload 4, 2) := by decide +kernel
theorem d_M_write_67 : decode prog_9_method_24_code 67 = .ok (.iaload, 1) := by decide +kernel
theorem d_M_write_68 : decode prog_9_method_24_code 68 = .ok (.iconst 2, 1) := by decide +kernel
theorem d_M_write_69 : decode prog_9_method_24_code 69 = .ok (.if_icmp .ne 61, 3) := by decide +kernel
theorem d_M_write_72 : decode prog_9_method_24_code 72 = .ok (.aload_n 0, 1) := by decide +kernel
theorem d_M_write_73 : decode prog_9_method_24_code 73 = .ok (.iload 5, 2) := by decide +kernel
theorem d_M_write_75 : decode prog_9_method_24_code 75 = .ok (.iconst 1, 1) := by decide +kernel
theorem d_M_write_76 : decode prog_9_method_24_code 76 = .ok (.invokevirtual 126, 3) := by decide +kernel
theorem d_M_write_79 : decode prog_9_method_24_code 79 = .ok (.ifCond .ne 6, 3) := by decide +kernel
theorem d_M_write_82 : decode prog_9_method_24_code 82 = .ok (.bipush (-7), 2) := by decide +kernel
theorem d_M_write_84 : decode prog_9_method_24_code 84 = .ok (.ireturn, 1) := by decide +kernel
theorem d_M_write_85 : decode prog_9_method_24_code 85 = .ok (.aload_n 0, 1) := by decide +kernel
theorem d_M_write_86 : decode prog_9_method_24_code 86 = .ok (.getfield 65, 3) := by decide +kernel
theorem d_M_write_89 : decode prog_9_method_24_code 89 = .ok (.iload 5, 2) := by decide +kernel
theorem d_M_write_91 : decode prog_9_method_24_code 91 = .ok (.iaload, 1) := by decide +kernel
theorem d_M_write_92 : decode prog_9_method_24_code 92 = .ok (.iconst 4, 1) := by decide +kernel
theorem d_M_write_93 : decode prog_9_method_24_code 93 = .ok (.if_icmp .ne 6, 3) := by decide +kernel
theorem d_M_write_96 : decode prog_9_method_24_code 96 = .ok (.bipush (-6), 2) := by decide +kernel
theorem d_M_write_98 : decode prog_9_method_24_code 98 = .ok (.ireturn, 1) := by decide +kernel
theorem d_M_write_99 : decode prog_9_method_24_code 99 = .ok (.aload_n 0, 1) := by decide +kernel
theorem d_M_write_100 : decode prog_9_method_24_code 100 = .ok (.getfield 62, 3) := by decide +kernel
theorem d_M_write_103 : decode prog_9_method_24_code 103 = .ok (.iconst 4, 1) := by decide +kernel
theorem d_M_write_104 : decode prog_9_method_24_code 104 = .ok (.iload 5, 2) := by decide +kernel
theorem d_M_write_106 : decode prog_9_method_24_code 106 = .ok (.imul, 1) := by decide +kernel
theorem d_M_write_107 : decode prog_9_method_24_code 107 = .ok (.aload_n 0, 1) := by decide +kernel
theorem d_M_write_108 : decode prog_9_method_24_code 108 = .ok (.getfield 65, 3) := by decide +kernel
theorem d_M_write_111 : decode prog_9_method_24_code 111 = .ok (.iload 5, 2) := by decide +kernel
theorem d_M_write_113 : decode prog_9_method_24_code 113 = .ok (.iaload, 1) := by decide +kernel
theorem d_M_write_114 : decode prog_9_method_24_code 114 = .ok (.iadd, 1) := by decide +kernel
theorem d_M_write_115 : decode prog_9_method_24_code 115 = .ok (.iload_n 3, 1) := by decide +kernel
theorem d_M_write_116 : decode prog_9_method_24_code 116 = .ok (.iastore, 1) := by decide +kernel
theorem d_M_write_117 : decode prog_9_method_24_code 117 = .ok (.aload_n 0, 1) := by decide +kernel
theorem d_M_write_118 : decode prog_9_method_24_code 118 = .ok (.getfield 65, 3) := by decide +kernel
theorem d_M_write_121 : decode prog_9_method_24_code 121 = .ok (.iload 5, 2) := by decide +kernel
theorem d_M_write_123 : decode prog_9_method_24_code 123 = .ok (.dup2, 1) := by decide +kernel
theorem d_M_write_124 : decode prog_9_method_24_code 124 = .ok (.iaload, 1) := by decide +kernel
theorem d_M_write_125 : decode prog_9_method_24_code 125 = .ok (.iconst 1, 1) := by decide +kernel
theorem d_M_write_126 : decode prog_9_method_24_code 126 = .ok (.iadd, 1) := by decide +kernel
theorem d_M_write_127 : decode prog_9_method_24_code 127 = .ok (.iastore, 1) := by decide +kernel
theorem d_M_write_128 : decode prog_9_method_24_code 128 = .ok (.iconst 1, 1) := by decide +kernel
theorem d_M_write_129 : decode prog_9_method_24_code 129 = .ok (.ireturn, 1) := by decide +kernel
theorem d_M_write_130 : decode prog_9_method_24_code 130 = .ok (.aload_n 0, 1) := by decide +kernel
theorem d_M_write_131 : decode prog_9_method_24_code 131 = .ok (.getfield 56, 3) := by decide +kernel
theorem d_M_write_134 : decode prog_9_method_24_code 134 = .ok (.iload 4, 2) := by decide +kernel
theorem d_M_write_136 : decode prog_9_method_24_code 136 = .ok (.iaload, 1) := by decide +kernel
theorem d_M_write_137 : decode prog_9_method_24_code 137 = .ok (.iconst 4, 1) := by decide +kernel
theorem d_M_write_138 : decode prog_9_method_24_code 138 = .ok (.iand, 1) := by decide +kernel
theorem d_M_write_139 : decode prog_9_method_24_code 139 = .ok (.ifCond .eq 13, 3) := by decide +kernel
theorem d_M_write_142 : decode prog_9_method_24_code 142 = .ok (.aload_n 0, 1) := by decide +kernel
theorem d_M_write_143 : decode prog_9_method_24_code 143 = .ok (.getfield 20, 3) := by decide +kernel
theorem d_M_write_146 : decode prog_9_method_24_code 146 = .ok (.iload 5, 2) := by decide +kernel
theorem d_M_write_148 : decode prog_9_method_24_code 148 = .ok (.iaload, 1) := by decide +kernel
theorem d_M_write_149 : decode prog_9_method_24_code 149 = .ok (.goto 10, 3) := by decide +kernel
theorem d_M_write_152 : decode prog_9_method_24_code 152 = .ok (.aload_n 0, 1) := by decide +kernel
theorem d_M_write_153 : decode prog_9_method_24_code 153 = .ok (.getfield 59, 3) := by decide +kernel
theorem d_M_write_156 : decode prog_9_method_24_code 156 = .ok (.iload 4, 2) := by decide +kernel
theorem d_M_write_158 : decode prog_9_method_24_code 158 = .ok (.iaload, 1) := by decide +kernel
theorem d_M_write_159 : decode prog_9_method_24_code 159 = .ok (.istore 6, 2) := by decide +kernel
theorem d_M_write_161 : decode prog_9_method_24_code 161 = .ok (.iload 6, 2) := by decide +kernel
theorem d_M_write_163 : decode prog_9_method_24_code 163 = .ok (.bipush 32, 2) := by decide +kernel
theorem d_M_write_165 : decode prog_9_method_24_code 165 = .ok (.if_icmp .ne 6, 3) := by decide +kernel
theorem d_M_write_168 : decode prog_9_method_24_code 168 = .ok (.bipush (-2), 2) := by decide +kernel
theorem d_M_write_170 : decode prog_9_method_24_code 170 = .ok (.ireturn, 1) := by decide +kernel
theorem d_M_write_171 : decode prog_9_method_24_code 171 = .ok (.aload_n 0, 1) := by decide +kernel
theorem d_M_write_172 : decode prog_9_method_24_code 172 = .ok (.iload 5, 2) := by decide +kernel
theorem d_M_write_174 : decode prog_9_method_24_code 174 = .ok (.iload 6, 2) := by decide +kernel
theorem d_M_write_176 : decode prog_9_method_24_code 176 = .ok (.bipush 8, 2) := by decide +kernel
theorem d_M_write_178 : decode prog_9_method_24_code 178 = .ok (.idiv, 1) := by decide +kernel
theorem d_M_write_179 : decode prog_9_method_24_code 179 = .ok (.invokevirtual 133, 3) := by decide +kernel
theorem d_M_write_182 : decode prog_9_method_24_code 182 = .ok (.ifCond .ne 6, 3) := by decide +kernel
theorem d_M_write_185 : decode prog_9_method_24_code 185 = .ok (.bipush (-8), 2) := by decide +kernel
theorem d_M_write_187 : decode prog_9_method_24_code 187 = .ok (.ireturn, 1) := by decide +kernel
theorem d_M_write_188 : decode prog_9_method_24_code 188 = .ok (.aload_n 0, 1) := by decide +kernel
theorem d_M_write_189 : decode prog_9_method_24_code 189 = .ok (.getfield 29, 3) := by decide +kernel
theorem d_M_write_192 : decode prog_9_method_24_code 192 = .ok (.iconst 0, 1) := by decide +kernel
theorem d_M_write_193 : decode prog_9_method_24_code 193 = .ok (.iconst 1, 1) := by decide +kernel
theorem d_M_write_194 : decode prog_9_method_24_code 194 = .ok (.bastore, 1) := by decide +kernel
theorem d_M_write_195 : decode prog_9_method_24_code 195 = .ok (.aload_n 0, 1) := by decide +kernel
theorem d_M_write_196 : decode prog_9_method_24_code 196 = .ok (.getfield 32, 3) := by decide +kernel
theorem d_M_write_199 : decode prog_9_method_24_code 199 = .ok (.iload 6, 2) := by decide +kernel
theorem d_M_write_201 : decode prog_9_method_24_code 201 = .ok (.bipush 8, 2) := by decide +kernel
theorem d_M_write_203 : decode prog_9_method_24_code 203 = .ok (.irem, 1) := by decide +kernel
theorem d_M_write_204 : decode prog_9_method_24_code 204 = .ok (.iload_n 3, 1) := by decide +kernel
theorem d_M_write_205 : decode prog_9_method_24_code 205 = .ok (.iastore, 1) := by decide +kernel
theorem d_M_write_206 : decode prog_9_method_24_code 206 = .ok (.aload_n 0, 1) := by decide +kernel
theorem d_M_write_207 : decode prog_9_method_24_code 207 = .ok (.getfield 20, 3) := by decide +kernel
theorem d_M_write_210 : decode prog_9_method_24_code 210 = .ok (.iload 5, 2) := by decide +kernel
theorem d_M_write_212 : decode prog_9_method_24_code 212 = .ok (.iaload, 1) := by decide +kernel
theorem d_M_write_213 : decode prog_9_method_24_code 213 = .ok (.iload 6, 2) := by decide +kernel
theorem d_M_write_215 : decode prog_9_method_24_code 215 = .ok (.if_icmp .gt 14, 3) := by decide +kernel
theorem d_M_write_218 : decode prog_9_method_24_code 218 = .ok (.aload_n 0, 1) := by decide +kernel
theorem d_M_write_219 : decode prog_9_method_24_code 219 = .ok (.getfield 20, 3) := by decide +kernel
theorem d_M_write_222 : decode prog_9_method_24_code 222 = .ok (.iload 5, 2) := by decide +kernel
theorem d_M_write_224 : decode prog_9_method_24_code 224 = .ok (.iload 6, 2) := by decide +kernel
theorem d_M_write_226 : decode prog_9_method_24_code 226 = .ok (.iconst 1, 1) := by decide +kernel
theorem d_M_write_227 : decode prog_9_method_24_code 227 = .ok (.iadd, 1) := by decide +kernel
theorem d_M_write_228 : decode prog_9_method_24_code 228 = .ok (.iastore, 1) := by decide +kernel
theorem d_M_write_229 : decode prog_9_method_24_code 229 = .ok (.aload_n 0, 1) := by decide +kernel
theorem d_M_write_230 : decode prog_9_method_24_code 230 = .ok (.getfield 59, 3) := by decide +kernel
theorem d_M_write_233 : decode prog_9_method_24_code 233 = .ok (.iload 4, 2) := by decide +kernel
theorem d_M_write_235 : decode prog_9_method_24_code 235 = .ok (.iload 6, 2) := by decide +kernel
theorem d_M_write_237 : decode prog_9_method_24_code 237 = .ok (.iconst 1, 1) := by decide +kernel
theorem d_M_write_238 : decode prog_9_method_24_code 238 = .ok (.iadd, 1) := by decide +kernel
theorem d_M_write_239 : decode prog_9_method_24_code 239 = .ok (.iastore, 1) := by decide +kernel
theorem d_M_write_240 : decode prog_9_method_24_code 240 = .ok (.iconst 1, 1) := by decide +kernel
theorem d_M_write_241 : decode prog_9_method_24_code 241 = .ok (.ireturn, 1) := by decide +kernel
theorem d_M_seek_0 : decode prog_9_method_25_code 0 = .ok (.aload_n 0, 1) := by decide +kernel
theorem d_M_seek_1 : decode prog_9_method_25_code 1 = .ok (.iload_n 1, 1) := by decide +kernel
theorem d_M_seek_2 : decode prog_9_method_25_code 2 = .ok (.invokevirtual 86, 3) := by decide +kernel
theorem d_M_seek_5 : decode prog_9_method_25_code 5 = .ok (.ifCond .eq 15, 3) := by decide +kernel
theorem d_M_seek_8 : decode prog_9_method_25_code 8 = .ok (.iload_n 3, 1) := by decide +kernel
theorem d_M_seek_9 : decode prog_9_method_25_code 9 = .ok (.iconst 0, 1) := by decide +kernel
theorem d_M_seek_10 : decode prog_9_method_25_code 10 = .ok (.bipush 32, 2) := by decide +kernel
theorem d_M_seek_12 : decode prog_9_method_25_code 12 = .ok (.invokestatic 78, 3) := by decide +kernel
theorem d_M_seek_15 : decode prog_9_method_25_code 15 = .ok (.ifCond .ne 5, 3) := by decide +kernel
theorem d_M_seek_18 : decode prog_9_method_25_code 18 = .ok (.iconst (-1), 1) := by decide +kernel
theorem d_M_seek_19 : decode prog_9_method_25_code 19 = .ok (.ireturn, 1) := by decide +kernel
theorem d_M_seek_20 : decode prog_9_method_25_code 20 = .ok (.aload_n 0, 1) := by decide +kernel
theorem d_M_seek_21 : decode prog_9_method_25_code 21 = .ok (.iload_n 1, 1) := by decide +kernel
