theorem dL_isPair_0 : decode cL_isPair 0 = .ok (.aload_n 0, 1) := by decide +kernel
theorem dL_isPair_1 : decode cL_isPair 1 = .ok (.iload_n 1, 1) := by decide +kernel
theorem dL_isPair_2 : decode cL_isPair 2 = .ok (.iconst 0, 1) := by decide +kernel
theorem dL_isPair_3 : decode cL_isPair 3 = .ok (.invokevirtual 38, 3) := by decide +kernel
theorem dL_isPair_6 : decode cL_isPair 6 = .ok (.istore_n 2, 1) := by decide +kernel
theorem dL_isPair_7 : decode cL_isPair 7 = .ok (.aload_n 0, 1) := by decide +kernel
theorem dL_isPair_8 : decode cL_isPair 8 = .ok (.iload_n 1, 1) := by decide +kernel
theorem dL_isPair_9 : decode cL_isPair 9 = .ok (.iconst 1, 1) := by decide +kernel
theorem dL_isPair_10 : decode cL_isPair 10 = .ok (.invokevirtual 38, 3) := by decide +kernel
theorem dL_isPair_13 : decode cL_isPair 13 = .ok (.istore_n 3, 1) := by decide +kernel
theorem dL_isPair_14 : decode cL_isPair 14 = .ok (.aload_n 0, 1) := by decide +kernel
theorem dL_isPair_15 : decode cL_isPair 15 = .ok (.iload_n 1, 1) := by decide +kernel
theorem dL_isPair_16 : decode cL_isPair 16 = .ok (.bipush 6, 2) := by decide +kernel
theorem dL_isPair_18 : decode cL_isPair 18 = .ok (.invokevirtual 38, 3) := by decide +kernel
theorem dL_isPair_21 : decode cL_isPair 21 = .ok (.istore 4, 2) := by decide +kernel
theorem dL_isPair_23 : decode cL_isPair 23 = .ok (.iload_n 2, 1) := by decide +kernel
theorem dL_isPair_24 : decode cL_isPair 24 = .ok (.bipush 40, 2) := by decide +kernel
theorem dL_isPair_26 : decode cL_isPair 26 = .ok (.iload_n 3, 1) := by decide +kernel
theorem dL_isPair_27 : decode cL_isPair 27 = .ok (.iconst 1, 1) := by decide +kernel
theorem dL_isPair_28 : decode cL_isPair 28 = .ok (.isub, 1) := by decide +kernel
theorem dL_isPair_29 : decode cL_isPair 29 = .ok (.iload 4, 2) := by decide +kernel
theorem dL_isPair_31 : decode cL_isPair 31 = .ok (.imul, 1) := by decide +kernel
theorem dL_isPair_32 : decode cL_isPair 32 = .ok (.iadd, 1) := by decide +kernel
theorem dL_isPair_33 : decode cL_isPair 33 = .ok (.imul, 1) := by decide +kernel
theorem dL_isPair_34 : decode cL_isPair 34 = .ok (.istore 5, 2) := by decide +kernel
theorem dL_isPair_36 : decode cL_isPair 36 = .ok (.aload_n 0, 1) := by decide +kernel
theorem dL_isPair_37 : decode cL_isPair 37 = .ok (.iload_n 1, 1) := by decide +kernel
theorem dL_isPair_38 : decode cL_isPair 38 = .ok (.bipush 8, 2) := by decide +kernel
theorem dL_isPair_40 : decode cL_isPair 40 = .ok (.invokevirtual 38, 3) := by decide +kernel
theorem dL_isPair_43 : decode cL_isPair 43 = .ok (.i2l, 1) := by decide +kernel
theorem dL_isPair_44 : decode cL_isPair 44 = .ok (.lstore 6, 2) := by decide +kernel
theorem dL_isPair_46 : decode cL_isPair 46 = .ok (.aload_n 0, 1) := by decide +kernel
theorem dL_isPair_47 : decode cL_isPair 47 = .ok (.iload_n 1, 1) := by decide +kernel
theorem dL_isPair_48 : decode cL_isPair 48 = .ok (.bipush 9, 2) := by decide +kernel
theorem dL_isPair_50 : decode cL_isPair 50 = .ok (.invokevirtual 38, 3) := by decide +kernel
theorem dL_isPair_53 : decode cL_isPair 53 = .ok (.istore 8, 2) := by decide +kernel
theorem dL_isPair_55 : decode cL_isPair 55 = .ok (.aload_n 0, 1) := by decide +kernel
theorem dL_isPair_56 : decode cL_isPair 56 = .ok (.iload_n 1, 1) := by decide +kernel
theorem dL_isPair_57 : decode cL_isPair 57 = .ok (.bipush 10, 2) := by decide +kernel
theorem dL_isPair_59 : decode cL_isPair 59 = .ok (.invokevirtual 38, 3) := by decide +kernel
theorem dL_isPair_62 : decode cL_isPair 62 = .ok (.iconst 1, 1) := by decide +kernel
theorem dL_isPair_63 : decode cL_isPair 63 = .ok (.if_icmp .ne 7, 3) := by decide +kernel
theorem dL_isPair_66 : decode cL_isPair 66 = .ok (.iconst 1, 1) := by decide +kernel
theorem dL_isPair_67 : decode cL_isPair 67 = .ok (.goto 4, 3) := by decide +kernel
theorem dL_isPair_70 : decode cL_isPair 70 = .ok (.iconst 0, 1) := by decide +kernel
theorem dL_isPair_71 : decode cL_isPair 71 = .ok (.istore 9, 2) := by decide +kernel
theorem dL_isPair_73 : decode cL_isPair 73 = .ok (.iload 9, 2) := by decide +kernel
theorem dL_isPair_75 : decode cL_isPair 75 = .ok (.ifCond .eq 18, 3) := by decide +kernel
theorem dL_isPair_78 : decode cL_isPair 78 = .ok (.iload_n 2, 1) := by decide +kernel
theorem dL_isPair_79 : decode cL_isPair 79 = .ok (.iload_n 3, 1) := by decide +kernel
theorem dL_isPair_80 : decode cL_isPair 80 = .ok (.iconst 1, 1) := by decide +kernel
theorem dL_isPair_81 : decode cL_isPair 81 = .ok (.isub, 1) := by decide +kernel
theorem dL_isPair_82 : decode cL_isPair 82 = .ok (.imul, 1) := by decide +kernel
theorem dL_isPair_83 : decode cL_isPair 83 = .ok (.iload 8, 2) := by decide +kernel
theorem dL_isPair_85 : decode cL_isPair 85 = .ok (.imul, 1) := by decide +kernel
theorem dL_isPair_86 : decode cL_isPair 86 = .ok (.iload 8, 2) := by decide +kernel
theorem dL_isPair_88 : decode cL_isPair 88 = .ok (.imul, 1) := by decide +kernel
theorem dL_isPair_89 : decode cL_isPair 89 = .ok (.i2l, 1) := by decide +kernel
theorem dL_isPair_90 : decode cL_isPair 90 = .ok (.goto 23, 3) := by decide +kernel
theorem dL_isPair_93 : decode cL_isPair 93 = .ok (.iload_n 2, 1) := by decide +kernel
theorem dL_isPair_94 : decode cL_isPair 94 = .ok (.iload_n 3, 1) := by decide +kernel
theorem dL_isPair_95 : decode cL_isPair 95 = .ok (.iconst 1, 1) := by decide +kernel
theorem dL_isPair_96 : decode cL_isPair 96 = .ok (.isub, 1) := by decide +kernel
theorem dL_isPair_97 : decode cL_isPair 97 = .ok (.imul, 1) := by decide +kernel
theorem dL_isPair_98 : decode cL_isPair 98 = .ok (.i2l, 1) := by decide +kernel
theorem dL_isPair_99 : decode cL_isPair 99 = .ok (.lload 6, 2) := by decide +kernel
theorem dL_isPair_101 : decode cL_isPair 101 = .ok (.lmul, 1) := by decide +kernel
theorem dL_isPair_102 : decode cL_isPair 102 = .ok (.lload 6, 2) := by decide +kernel
theorem dL_isPair_104 : decode cL_isPair 104 = .ok (.lmul, 1) := by decide +kernel
theorem dL_isPair_105 : decode cL_isPair 105 = .ok (.iload 5, 2) := by decide +kernel
theorem dL_isPair_107 : decode cL_isPair 107 = .ok (.i2l, 1) := by decide +kernel
theorem dL_isPair_108 : decode cL_isPair 108 = .ok (.iload 5, 2) := by decide +kernel
theorem dL_isPair_110 : decode cL_isPair 110 = .ok (.i2l, 1) := by decide +kernel
theorem dL_isPair_111 : decode cL_isPair 111 = .ok (.lmul, 1) := by decide +kernel
theorem dL_isPair_112 : decode cL_isPair 112 = .ok (.ldiv, 1) := by decide +kernel
theorem dL_isPair_113 : decode cL_isPair 113 = .ok (.lstore 10, 2) := by decide +kernel
theorem dL_isPair_115 : decode cL_isPair 115 = .ok (.aload_n 0, 1) := by decide +kernel
theorem dL_isPair_116 : decode cL_isPair 116 = .ok (.iload_n 1, 1) := by decide +kernel
theorem dL_isPair_117 : decode cL_isPair 117 = .ok (.iconst 2, 1) := by decide +kernel
theorem dL_isPair_118 : decode cL_isPair 118 = .ok (.invokevirtual 38, 3) := by decide +kernel
theorem dL_isPair_121 : decode cL_isPair 121 = .ok (.iload 4, 2) := by decide +kernel
theorem dL_isPair_123 : decode cL_isPair 123 = .ok (.aload_n 0, 1) := by decide +kernel
theorem dL_isPair_124 : decode cL_isPair 124 = .ok (.iload_n 1, 1) := by decide +kernel
theorem dL_isPair_125 : decode cL_isPair 125 = .ok (.iconst 3, 1) := by decide +kernel
theorem dL_isPair_126 : decode cL_isPair 126 = .ok (.invokevirtual 38, 3) := by decide +kernel
theorem dL_isPair_129 : decode cL_isPair 129 = .ok (.isub, 1) := by decide +kernel
theorem dL_isPair_130 : decode cL_isPair 130 = .ok (.imul, 1) := by decide +kernel
theorem dL_isPair_131 : decode cL_isPair 131 = .ok (.istore 12, 2) := by decide +kernel
theorem dL_isPair_133 : decode cL_isPair 133 = .ok (.lload 10, 2) := by decide +kernel
theorem dL_isPair_135 : decode cL_isPair 135 = .ok (.l2i, 1) := by decide +kernel
theorem dL_isPair_136 : decode cL_isPair 136 = .ok (.iload 12, 2) := by decide +kernel
theorem dL_isPair_138 : decode cL_isPair 138 = .ok (.isub, 1) := by decide +kernel
theorem dL_isPair_139 : decode cL_isPair 139 = .ok (.istore 13, 2) := by decide +kernel
theorem dL_isPair_141 : decode cL_isPair 141 = .ok (.iload 13, 2) := by decide +kernel
theorem dL_isPair_143 : decode cL_isPair 143 = .ok (.invokestatic 51, 3) := by decide +kernel
theorem dL_isPair_146 : decode cL_isPair 146 = .ok (.aload_n 0, 1) := by decide +kernel
theorem dL_isPair_147 : decode cL_isPair 147 = .ok (.iload_n 1, 1) := by decide +kernel
theorem dL_isPair_148 : decode cL_isPair 148 = .ok (.iconst 4, 1) := by decide +kernel
theorem dL_isPair_149 : decode cL_isPair 149 = .ok (.invokevirtual 38, 3) := by decide +kernel
theorem dL_isPair_152 : decode cL_isPair 152 = .ok (.if_icmp .le 19, 3) := by decide +kernel
theorem dL_isPair_155 : decode cL_isPair 155 = .ok (.iload 13, 2) := by decide +kernel
theorem dL_isPair_157 : decode cL_isPair 157 = .ok (.ifCond .le 14, 3) := by decide +kernel
theorem dL_isPair_160 : decode cL_isPair 160 = .ok (.iload 4, 2) := by decide +kernel
theorem dL_isPair_162 : decode cL_isPair 162 = .ok (.bipush 40, 2) := by decide +kernel
theorem dL_isPair_164 : decode cL_isPair 164 = .ok (.if_icmp .ge 7, 3) := by decide +kernel
theorem dL_isPair_167 : decode cL_isPair 167 = .ok (.iconst 0, 1) := by decide +kernel
theorem dL_isPair_168 : decode cL_isPair 168 = .ok (.goto 59, 3) := by decide +kernel
theorem dL_isPair_171 : decode cL_isPair 171 = .ok (.iload 13, 2) := by decide +kernel
theorem dL_isPair_173 : decode cL_isPair 173 = .ok (.invokestatic 51, 3) := by decide +kernel
theorem dL_isPair_176 : decode cL_isPair 176 = .ok (.aload_n 0, 1) := by decide +kernel
theorem dL_isPair_177 : decode cL_isPair 177 = .ok (.iload_n 1, 1) := by decide +kernel
theorem dL_isPair_178 : decode cL_isPair 178 = .ok (.iconst 4, 1) := by decide +kernel
theorem dL_isPair_179 : decode cL_isPair 179 = .ok (.invokevirtual 38, 3) := by decide +kernel
theorem dL_isPair_182 : decode cL_isPair 182 = .ok (.if_icmp .le 17, 3) := by decide +kernel
theorem dL_isPair_185 : decode cL_isPair 185 = .ok (.iload 13, 2) := by decide +kernel
theorem dL_isPair_187 : decode cL_isPair 187 = .ok (.ifCond .ge 12, 3) := by decide +kernel
theorem dL_isPair_190 : decode cL_isPair 190 = .ok (.iload 4, 2) := by decide +kernel
theorem dL_isPair_192 : decode cL_isPair 192 = .ok (.ifCond .le 7, 3) := by decide +kernel
theorem dL_isPair_195 : decode cL_isPair 195 = .ok (.iconst 1, 1) := by decide +kernel
theorem dL_isPair_196 : decode cL_isPair 196 = .ok (.goto 31, 3) := by decide +kernel
theorem dL_isPair_199 : decode cL_isPair 199 = .ok (.iload 13, 2) := by decide +kernel
theorem dL_isPair_201 : decode cL_isPair 201 = .ok (.ifCond .ne 7, 3) := by decide +kernel
theorem dL_isPair_204 : decode cL_isPair 204 = .ok (.iconst 2, 1) := by decide +kernel
theorem dL_isPair_205 : decode cL_isPair 205 = .ok (.goto 22, 3) := by decide +kernel
theorem dL_isPair_208 : decode cL_isPair 208 = .ok (.iload 13, 2) := by decide +kernel
theorem dL_isPair_210 : decode cL_isPair 210 = .ok (.invokestatic 51, 3) := by decide +kernel
theorem dL_isPair_213 : decode cL_isPair 213 = .ok (.aload_n 0, 1) := by decide +kernel
theorem dL_isPair_214 : decode cL_isPair 214 = .ok (.iload_n 1, 1) := by decide +kernel
theorem dL_isPair_215 : decode cL_isPair 215 = .ok (.iconst 4, 1) := by decide +kernel
theorem dL_isPair_216 : decode cL_isPair 216 = .ok (.invokevirtual 38, 3) := by decide +kernel
theorem dL_isPair_219 : decode cL_isPair 219 = .ok (.if_icmp .gt 7, 3) := by decide +kernel
theorem dL_isPair_222 : decode cL_isPair 222 = .ok (.iconst 3, 1) := by decide +kernel
theorem dL_isPair_223 : decode cL_isPair 223 = .ok (.goto 4, 3) := by decide +kernel
theorem dL_isPair_226 : decode cL_isPair 226 = .ok (.iconst 4, 1) := by decide +kernel
theorem dL_isPair_227 : decode cL_isPair 227 = .ok (.istore 14, 2) := by decide +kernel
theorem dL_isPair_229 : decode cL_isPair 229 = .ok (.aload_n 0, 1) := by decide +kernel
theorem dL_isPair_230 : decode cL_isPair 230 = .ok (.iload_n 1, 1) := by decide +kernel
theorem dL_isPair_231 : decode cL_isPair 231 = .ok (.bipush 7, 2) := by decide +kernel
theorem dL_isPair_233 : decode cL_isPair 233 = .ok (.invokevirtual 38, 3) := by decide +kernel
theorem dL_isPair_236 : decode cL_isPair 236 = .ok (.iload 5, 2) := by decide +kernel
theorem dL_isPair_238 : decode cL_isPair 238 = .ok (.if_icmp .ne 111, 3) := by decide +kernel
theorem dL_isPair_241 : decode cL_isPair 241 = .ok (.iload 9, 2) := by decide +kernel
theorem dL_isPair_243 : decode cL_isPair 243 = .ok (.ifCond .eq 15, 3) := by decide +kernel
theorem dL_isPair_246 : decode cL_isPair 246 = .ok (.lload 6, 2) := by decide +kernel
theorem dL_isPair_248 : decode cL_isPair 248 = .ok (.iload 5, 2) := by decide +kernel
theorem dL_isPair_250 : decode cL_isPair 250 = .ok (.iload 8, 2) := by decide +kernel
theorem dL_isPair_252 : decode cL_isPair 252 = .ok (.imul, 1) := by decide +kernel
theorem dL_isPair_253 : decode cL_isPair 253 = .ok (.i2l, 1) := by decide +kernel
theorem dL_isPair_254 : decode cL_isPair 254 = .ok (.lcmp, 1) := by decide +kernel
theorem dL_isPair_255 : decode cL_isPair 255 = .ok (.ifCond .ne 94, 3) := by decide +kernel
