theorem dL_low_0 : decode cL_low 0 = .ok (.iload_n 0, 1) := by decide +kernel
theorem dL_low_1 : decode cL_low 1 = .ok (.ldc 8, 2) := by decide +kernel
theorem dL_low_3 : decode cL_low 3 = .ok (.iand, 1) := by decide +kernel
theorem dL_low_4 : decode cL_low 4 = .ok (.iload_n 1, 1) := by decide +kernel
theorem dL_low_5 : decode cL_low 5 = .ok (.irem, 1) := by decide +kernel
theorem dL_low_6 : decode cL_low 6 = .ok (.ireturn, 1) := by decide +kernel
theorem dL_cell_0 : decode cL_cell 0 = .ok (.iload_n 1, 1) := by decide +kernel
theorem dL_cell_1 : decode cL_cell 1 = .ok (.aload_n 0, 1) := by decide +kernel
theorem dL_cell_2 : decode cL_cell 2 = .ok (.arraylength, 1) := by decide +kernel
theorem dL_cell_3 : decode cL_cell 3 = .ok (.if_icmp .ge 9, 3) := by decide +kernel
theorem dL_cell_6 : decode cL_cell 6 = .ok (.aload_n 0, 1) := by decide +kernel
theorem dL_cell_7 : decode cL_cell 7 = .ok (.iload_n 1, 1) := by decide +kernel
theorem dL_cell_8 : decode cL_cell 8 = .ok (.iaload, 1) := by decide +kernel
theorem dL_cell_9 : decode cL_cell 9 = .ok (.goto 11, 3) := by decide +kernel
theorem dL_cell_12 : decode cL_cell 12 = .ok (.ldc 7, 2) := by decide +kernel
theorem dL_cell_14 : decode cL_cell 14 = .ok (.iload_n 1, 1) := by decide +kernel
theorem dL_cell_15 : decode cL_cell 15 = .ok (.imul, 1) := by decide +kernel
theorem dL_cell_16 : decode cL_cell 16 = .ok (.sipush 977, 3) := by decide +kernel
theorem dL_cell_19 : decode cL_cell 19 = .ok (.iadd, 1) := by decide +kernel
theorem dL_cell_20 : decode cL_cell 20 = .ok (.ireturn, 1) := by decide +kernel
theorem dL_size_0 : decode cL_size 0 = .ok (.iload_n 0, 1) := by decide +kernel
theorem dL_size_1 : decode cL_size 1 = .ok (.ifCond .ge 8, 3) := by decide +kernel
theorem dL_size_4 : decode cL_size 4 = .ok (.iload_n 0, 1) := by decide +kernel
theorem dL_size_5 : decode cL_size 5 = .ok (.ineg, 1) := by decide +kernel
theorem dL_size_6 : decode cL_size 6 = .ok (.goto 4, 3) := by decide +kernel
theorem dL_size_9 : decode cL_size 9 = .ok (.iload_n 0, 1) := by decide +kernel
theorem dL_size_10 : decode cL_size 10 = .ok (.ireturn, 1) := by decide +kernel
theorem dL_act_0 : decode cL_act 0 = .ok (.iload_n 2, 1) := by decide +kernel
theorem dL_act_1 : decode cL_act 1 = .ok (.iconst 4, 1) := by decide +kernel
theorem dL_act_2 : decode cL_act 2 = .ok (.invokestatic 9, 3) := by decide +kernel
theorem dL_act_5 : decode cL_act 5 = .ok (.istore 4, 2) := by decide +kernel
theorem dL_act_7 : decode cL_act 7 = .ok (.iload_n 1, 1) := by decide +kernel
theorem dL_act_8 : decode cL_act 8 = .ok (.tableswitch 188 0 9 #[56, 56, 56, 142, 142, 155, 155, 162, 178, 178], 56) := by decide +kernel
theorem dL_act_64 : decode cL_act 64 = .ok (.iload_n 2, 1) := by decide +kernel
theorem dL_act_65 : decode cL_act 65 = .ok (.iconst 2, 1) := by decide +kernel
theorem dL_act_66 : decode cL_act 66 = .ok (.ishr, 1) := by decide +kernel
theorem dL_act_67 : decode cL_act 67 = .ok (.bipush 6, 2) := by decide +kernel
theorem dL_act_69 : decode cL_act 69 = .ok (.invokestatic 9, 3) := by decide +kernel
theorem dL_act_72 : decode cL_act 72 = .ok (.istore 5, 2) := by decide +kernel
theorem dL_act_74 : decode cL_act 74 = .ok (.aload_n 0, 1) := by decide +kernel
theorem dL_act_75 : decode cL_act 75 = .ok (.iload 4, 2) := by decide +kernel
theorem dL_act_77 : decode cL_act 77 = .ok (.iload 5, 2) := by decide +kernel
theorem dL_act_79 : decode cL_act 79 = .ok (.iload 5, 2) := by decide +kernel
theorem dL_act_81 : decode cL_act 81 = .ok (.iconst 2, 1) := by decide +kernel
theorem dL_act_82 : decode cL_act 82 = .ok (.if_icmp .ne 12, 3) := by decide +kernel
theorem dL_act_85 : decode cL_act 85 = .ok (.iload_n 3, 1) := by decide +kernel
theorem dL_act_86 : decode cL_act 86 = .ok (.bipush 60, 2) := by decide +kernel
theorem dL_act_88 : decode cL_act 88 = .ok (.invokestatic 9, 3) := by decide +kernel
theorem dL_act_91 : decode cL_act 91 = .ok (.goto 55, 3) := by decide +kernel
theorem dL_act_94 : decode cL_act 94 = .ok (.iload 5, 2) := by decide +kernel
theorem dL_act_96 : decode cL_act 96 = .ok (.iconst 4, 1) := by decide +kernel
theorem dL_act_97 : decode cL_act 97 = .ok (.if_icmp .ne 13, 3) := by decide +kernel
theorem dL_act_100 : decode cL_act 100 = .ok (.iload_n 3, 1) := by decide +kernel
theorem dL_act_101 : decode cL_act 101 = .ok (.sipush 900, 3) := by decide +kernel
theorem dL_act_104 : decode cL_act 104 = .ok (.invokestatic 9, 3) := by decide +kernel
theorem dL_act_107 : decode cL_act 107 = .ok (.goto 39, 3) := by decide +kernel
theorem dL_act_110 : decode cL_act 110 = .ok (.iload 5, 2) := by decide +kernel
theorem dL_act_112 : decode cL_act 112 = .ok (.iconst 5, 1) := by decide +kernel
theorem dL_act_113 : decode cL_act 113 = .ok (.if_icmp .ne 12, 3) := by decide +kernel
theorem dL_act_116 : decode cL_act 116 = .ok (.iload_n 3, 1) := by decide +kernel
theorem dL_act_117 : decode cL_act 117 = .ok (.bipush 101, 2) := by decide +kernel
theorem dL_act_119 : decode cL_act 119 = .ok (.invokestatic 9, 3) := by decide +kernel
theorem dL_act_122 : decode cL_act 122 = .ok (.goto 24, 3) := by decide +kernel
theorem dL_act_125 : decode cL_act 125 = .ok (.iload 5, 2) := by decide +kernel
theorem dL_act_127 : decode cL_act 127 = .ok (.iconst 3, 1) := by decide +kernel
theorem dL_act_128 : decode cL_act 128 = .ok (.if_icmp .ne 12, 3) := by decide +kernel
theorem dL_act_131 : decode cL_act 131 = .ok (.iload_n 3, 1) := by decide +kernel
theorem dL_act_132 : decode cL_act 132 = .ok (.bipush 42, 2) := by decide +kernel
theorem dL_act_134 : decode cL_act 134 = .ok (.invokestatic 9, 3) := by decide +kernel
theorem dL_act_137 : decode cL_act 137 = .ok (.goto 9, 3) := by decide +kernel
theorem dL_act_140 : decode cL_act 140 = .ok (.iload_n 3, 1) := by decide +kernel
theorem dL_act_141 : decode cL_act 141 = .ok (.bipush 10, 2) := by decide +kernel
theorem dL_act_143 : decode cL_act 143 = .ok (.invokestatic 9, 3) := by decide +kernel
theorem dL_act_146 : decode cL_act 146 = .ok (.invokevirtual 15, 3) := by decide +kernel
theorem dL_act_149 : decode cL_act 149 = .ok (.ireturn, 1) := by decide +kernel
theorem dL_act_150 : decode cL_act 150 = .ok (.aload_n 0, 1) := by decide +kernel
theorem dL_act_151 : decode cL_act 151 = .ok (.iload 4, 2) := by decide +kernel
theorem dL_act_153 : decode cL_act 153 = .ok (.iload_n 3, 1) := by decide +kernel
theorem dL_act_154 : decode cL_act 154 = .ok (.bipush 31, 2) := by decide +kernel
theorem dL_act_156 : decode cL_act 156 = .ok (.invokestatic 9, 3) := by decide +kernel
theorem dL_act_159 : decode cL_act 159 = .ok (.invokevirtual 21, 3) := by decide +kernel
theorem dL_act_162 : decode cL_act 162 = .ok (.ireturn, 1) := by decide +kernel
theorem dL_act_163 : decode cL_act 163 = .ok (.aload_n 0, 1) := by decide +kernel
theorem dL_act_164 : decode cL_act 164 = .ok (.iload 4, 2) := by decide +kernel
theorem dL_act_166 : decode cL_act 166 = .ok (.invokevirtual 24, 3) := by decide +kernel
theorem dL_act_169 : decode cL_act 169 = .ok (.ireturn, 1) := by decide +kernel
theorem dL_act_170 : decode cL_act 170 = .ok (.aload_n 0, 1) := by decide +kernel
theorem dL_act_171 : decode cL_act 171 = .ok (.iload_n 2, 1) := by decide +kernel
theorem dL_act_172 : decode cL_act 172 = .ok (.iconst 5, 1) := by decide +kernel
theorem dL_act_173 : decode cL_act 173 = .ok (.invokestatic 9, 3) := by decide +kernel
theorem dL_act_176 : decode cL_act 176 = .ok (.iload_n 3, 1) := by decide +kernel
theorem dL_act_177 : decode cL_act 177 = .ok (.bipush 41, 2) := by decide +kernel
theorem dL_act_179 : decode cL_act 179 = .ok (.invokestatic 9, 3) := by decide +kernel
theorem dL_act_182 : decode cL_act 182 = .ok (.invokevirtual 28, 3) := by decide +kernel
theorem dL_act_185 : decode cL_act 185 = .ok (.ireturn, 1) := by decide +kernel
theorem dL_act_186 : decode cL_act 186 = .ok (.aload_n 0, 1) := by decide +kernel
theorem dL_act_187 : decode cL_act 187 = .ok (.iload 4, 2) := by decide +kernel
theorem dL_act_189 : decode cL_act 189 = .ok (.iload_n 3, 1) := by decide +kernel
theorem dL_act_190 : decode cL_act 190 = .ok (.iconst 3, 1) := by decide +kernel
theorem dL_act_191 : decode cL_act 191 = .ok (.iand, 1) := by decide +kernel
theorem dL_act_192 : decode cL_act 192 = .ok (.invokestatic 31, 3) := by decide +kernel
theorem dL_act_195 : decode cL_act 195 = .ok (.ireturn, 1) := by decide +kernel
theorem dL_act_196 : decode cL_act 196 = .ok (.aload_n 0, 1) := by decide +kernel
theorem dL_act_197 : decode cL_act 197 = .ok (.iconst 1, 1) := by decide +kernel
theorem dL_act_198 : decode cL_act 198 = .ok (.iload_n 3, 1) := by decide +kernel
theorem dL_act_199 : decode cL_act 199 = .ok (.bipush 14, 2) := by decide +kernel
theorem dL_act_201 : decode cL_act 201 = .ok (.invokestatic 9, 3) := by decide +kernel
theorem dL_act_204 : decode cL_act 204 = .ok (.iadd, 1) := by decide +kernel
theorem dL_act_205 : decode cL_act 205 = .ok (.invokevirtual 35, 3) := by decide +kernel
theorem dL_act_208 : decode cL_act 208 = .ok (.ireturn, 1) := by decide +kernel
theorem dL_moves_0 : decode cL_moves 0 = .ok (.aload_n 0, 1) := by decide +kernel
theorem dL_moves_1 : decode cL_moves 1 = .ok (.iload_n 1, 1) := by decide +kernel
theorem dL_moves_2 : decode cL_moves 2 = .ok (.iload_n 2, 1) := by decide +kernel
theorem dL_moves_3 : decode cL_moves 3 = .ok (.invokevirtual 21, 3) := by decide +kernel
theorem dL_moves_6 : decode cL_moves 6 = .ok (.istore_n 3, 1) := by decide +kernel
theorem dL_moves_7 : decode cL_moves 7 = .ok (.aload_n 0, 1) := by decide +kernel
theorem dL_moves_8 : decode cL_moves 8 = .ok (.iload_n 1, 1) := by decide +kernel
theorem dL_moves_9 : decode cL_moves 9 = .ok (.invokevirtual 54, 3) := by decide +kernel
theorem dL_moves_12 : decode cL_moves 12 = .ok (.ifCond .ne 7, 3) := by decide +kernel
theorem dL_moves_15 : decode cL_moves 15 = .ok (.iconst 1, 1) := by decide +kernel
theorem dL_moves_16 : decode cL_moves 16 = .ok (.goto 4, 3) := by decide +kernel
theorem dL_moves_19 : decode cL_moves 19 = .ok (.iconst 0, 1) := by decide +kernel
theorem dL_moves_20 : decode cL_moves 20 = .ok (.istore 4, 2) := by decide +kernel
theorem dL_moves_22 : decode cL_moves 22 = .ok (.iload_n 3, 1) := by decide +kernel
theorem dL_moves_23 : decode cL_moves 23 = .ok (.bipush (-5), 2) := by decide +kernel
theorem dL_moves_25 : decode cL_moves 25 = .ok (.if_icmp .eq 10, 3) := by decide +kernel
theorem dL_moves_28 : decode cL_moves 28 = .ok (.aload_n 0, 1) := by decide +kernel
theorem dL_moves_29 : decode cL_moves 29 = .ok (.invokevirtual 76, 3) := by decide +kernel
theorem dL_moves_32 : decode cL_moves 32 = .ok (.ifCond .lt 12, 3) := by decide +kernel
theorem dL_moves_35 : decode cL_moves 35 = .ok (.iload 4, 2) := by decide +kernel
theorem dL_moves_37 : decode cL_moves 37 = .ok (.ifCond .eq 7, 3) := by decide +kernel
theorem dL_moves_40 : decode cL_moves 40 = .ok (.iconst 1, 1) := by decide +kernel
theorem dL_moves_41 : decode cL_moves 41 = .ok (.goto 4, 3) := by decide +kernel
theorem dL_moves_44 : decode cL_moves 44 = .ok (.iconst 0, 1) := by decide +kernel
theorem dL_moves_45 : decode cL_moves 45 = .ok (.ireturn, 1) := by decide +kernel
theorem dL_draws_0 : decode cL_draws 0 = .ok (.aload_n 0, 1) := by decide +kernel
theorem dL_draws_1 : decode cL_draws 1 = .ok (.iload_n 1, 1) := by decide +kernel
theorem dL_draws_2 : decode cL_draws 2 = .ok (.iload_n 2, 1) := by decide +kernel
theorem dL_draws_3 : decode cL_draws 3 = .ok (.invokevirtual 21, 3) := by decide +kernel
theorem dL_draws_6 : decode cL_draws 6 = .ok (.istore_n 3, 1) := by decide +kernel
theorem dL_draws_7 : decode cL_draws 7 = .ok (.aload_n 0, 1) := by decide +kernel
theorem dL_draws_8 : decode cL_draws 8 = .ok (.iload_n 1, 1) := by decide +kernel
theorem dL_draws_9 : decode cL_draws 9 = .ok (.sipush 400, 3) := by decide +kernel
theorem dL_draws_12 : decode cL_draws 12 = .ok (.invokevirtual 70, 3) := by decide +kernel
theorem dL_draws_15 : decode cL_draws 15 = .ok (.bipush 40, 2) := by decide +kernel
theorem dL_draws_17 : decode cL_draws 17 = .ok (.if_icmp .ne 7, 3) := by decide +kernel
theorem dL_draws_20 : decode cL_draws 20 = .ok (.iconst 1, 1) := by decide +kernel
theorem dL_draws_21 : decode cL_draws 21 = .ok (.goto 4, 3) := by decide +kernel
theorem dL_draws_24 : decode cL_draws 24 = .ok (.iconst 0, 1) := by decide +kernel
theorem dL_draws_25 : decode cL_draws 25 = .ok (.istore 4, 2) := by decide +kernel
