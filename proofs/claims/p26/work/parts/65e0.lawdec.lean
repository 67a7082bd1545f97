theorem dL_tries_0 : decode cL_tries 0 = .ok (.iload_n 1, 1) := by decide +kernel
theorem dL_tries_1 : decode cL_tries 1 = .ok (.iconst 4, 1) := by decide +kernel
theorem dL_tries_2 : decode cL_tries 2 = .ok (.invokestatic 9, 3) := by decide +kernel
theorem dL_tries_5 : decode cL_tries 5 = .ok (.istore_n 2, 1) := by decide +kernel
theorem dL_tries_6 : decode cL_tries 6 = .ok (.iconst 1, 1) := by decide +kernel
theorem dL_tries_7 : decode cL_tries 7 = .ok (.iload_n 1, 1) := by decide +kernel
theorem dL_tries_8 : decode cL_tries 8 = .ok (.iconst 2, 1) := by decide +kernel
theorem dL_tries_9 : decode cL_tries 9 = .ok (.ishr, 1) := by decide +kernel
theorem dL_tries_10 : decode cL_tries 10 = .ok (.bipush 60, 2) := by decide +kernel
theorem dL_tries_12 : decode cL_tries 12 = .ok (.invokestatic 9, 3) := by decide +kernel
theorem dL_tries_15 : decode cL_tries 15 = .ok (.iadd, 1) := by decide +kernel
theorem dL_tries_16 : decode cL_tries 16 = .ok (.istore_n 3, 1) := by decide +kernel
theorem dL_tries_17 : decode cL_tries 17 = .ok (.aload_n 0, 1) := by decide +kernel
theorem dL_tries_18 : decode cL_tries 18 = .ok (.iload_n 2, 1) := by decide +kernel
theorem dL_tries_19 : decode cL_tries 19 = .ok (.iload_n 3, 1) := by decide +kernel
theorem dL_tries_20 : decode cL_tries 20 = .ok (.invokevirtual 70, 3) := by decide +kernel
theorem dL_tries_23 : decode cL_tries 23 = .ok (.istore 4, 2) := by decide +kernel
theorem dL_tries_25 : decode cL_tries 25 = .ok (.aload_n 0, 1) := by decide +kernel
theorem dL_tries_26 : decode cL_tries 26 = .ok (.iload_n 2, 1) := by decide +kernel
theorem dL_tries_27 : decode cL_tries 27 = .ok (.invokevirtual 73, 3) := by decide +kernel
theorem dL_tries_30 : decode cL_tries 30 = .ok (.istore 5, 2) := by decide +kernel
theorem dL_tries_32 : decode cL_tries 32 = .ok (.aload_n 0, 1) := by decide +kernel
theorem dL_tries_33 : decode cL_tries 33 = .ok (.iload_n 2, 1) := by decide +kernel
theorem dL_tries_34 : decode cL_tries 34 = .ok (.bipush 6, 2) := by decide +kernel
theorem dL_tries_36 : decode cL_tries 36 = .ok (.invokevirtual 38, 3) := by decide +kernel
theorem dL_tries_39 : decode cL_tries 39 = .ok (.istore 6, 2) := by decide +kernel
theorem dL_tries_41 : decode cL_tries 41 = .ok (.aload_n 0, 1) := by decide +kernel
theorem dL_tries_42 : decode cL_tries 42 = .ok (.iload_n 3, 1) := by decide +kernel
theorem dL_tries_43 : decode cL_tries 43 = .ok (.invokevirtual 35, 3) := by decide +kernel
theorem dL_tries_46 : decode cL_tries 46 = .ok (.ifCond .lt 60, 3) := by decide +kernel
theorem dL_tries_49 : decode cL_tries 49 = .ok (.aload_n 0, 1) := by decide +kernel
theorem dL_tries_50 : decode cL_tries 50 = .ok (.iload_n 2, 1) := by decide +kernel
theorem dL_tries_51 : decode cL_tries 51 = .ok (.bipush 6, 2) := by decide +kernel
theorem dL_tries_53 : decode cL_tries 53 = .ok (.invokevirtual 38, 3) := by decide +kernel
theorem dL_tries_56 : decode cL_tries 56 = .ok (.iload 4, 2) := by decide +kernel
theorem dL_tries_58 : decode cL_tries 58 = .ok (.if_icmp .ne 48, 3) := by decide +kernel
theorem dL_tries_61 : decode cL_tries 61 = .ok (.iload 5, 2) := by decide +kernel
theorem dL_tries_63 : decode cL_tries 63 = .ok (.bipush (-5), 2) := by decide +kernel
theorem dL_tries_65 : decode cL_tries 65 = .ok (.if_icmp .eq 18, 3) := by decide +kernel
theorem dL_tries_68 : decode cL_tries 68 = .ok (.iload 5, 2) := by decide +kernel
theorem dL_tries_70 : decode cL_tries 70 = .ok (.iload_n 3, 1) := by decide +kernel
theorem dL_tries_71 : decode cL_tries 71 = .ok (.if_icmp .lt 12, 3) := by decide +kernel
theorem dL_tries_74 : decode cL_tries 74 = .ok (.aload_n 0, 1) := by decide +kernel
theorem dL_tries_75 : decode cL_tries 75 = .ok (.iload_n 2, 1) := by decide +kernel
theorem dL_tries_76 : decode cL_tries 76 = .ok (.iconst 1, 1) := by decide +kernel
theorem dL_tries_77 : decode cL_tries 77 = .ok (.invokevirtual 70, 3) := by decide +kernel
theorem dL_tries_80 : decode cL_tries 80 = .ok (.ifCond .lt 26, 3) := by decide +kernel
theorem dL_tries_83 : decode cL_tries 83 = .ok (.aload_n 0, 1) := by decide +kernel
theorem dL_tries_84 : decode cL_tries 84 = .ok (.invokevirtual 76, 3) := by decide +kernel
theorem dL_tries_87 : decode cL_tries 87 = .ok (.ifCond .lt 19, 3) := by decide +kernel
theorem dL_tries_90 : decode cL_tries 90 = .ok (.aload_n 0, 1) := by decide +kernel
theorem dL_tries_91 : decode cL_tries 91 = .ok (.iload_n 2, 1) := by decide +kernel
theorem dL_tries_92 : decode cL_tries 92 = .ok (.bipush 6, 2) := by decide +kernel
theorem dL_tries_94 : decode cL_tries 94 = .ok (.invokevirtual 38, 3) := by decide +kernel
theorem dL_tries_97 : decode cL_tries 97 = .ok (.iload 6, 2) := by decide +kernel
theorem dL_tries_99 : decode cL_tries 99 = .ok (.if_icmp .ne 7, 3) := by decide +kernel
theorem dL_tries_102 : decode cL_tries 102 = .ok (.iconst 1, 1) := by decide +kernel
theorem dL_tries_103 : decode cL_tries 103 = .ok (.goto 4, 3) := by decide +kernel
theorem dL_tries_106 : decode cL_tries 106 = .ok (.iconst 0, 1) := by decide +kernel
theorem dL_tries_107 : decode cL_tries 107 = .ok (.istore 7, 2) := by decide +kernel
theorem dL_tries_109 : decode cL_tries 109 = .ok (.iload 7, 2) := by decide +kernel
theorem dL_tries_111 : decode cL_tries 111 = .ok (.ifCond .eq 62, 3) := by decide +kernel
theorem dL_tries_114 : decode cL_tries 114 = .ok (.iload 5, 2) := by decide +kernel
theorem dL_tries_116 : decode cL_tries 116 = .ok (.ifCond .le 57, 3) := by decide +kernel
theorem dL_tries_119 : decode cL_tries 119 = .ok (.iload 5, 2) := by decide +kernel
theorem dL_tries_121 : decode cL_tries 121 = .ok (.bipush 99, 2) := by decide +kernel
theorem dL_tries_123 : decode cL_tries 123 = .ok (.if_icmp .gt 50, 3) := by decide +kernel
theorem dL_tries_126 : decode cL_tries 126 = .ok (.aload_n 0, 1) := by decide +kernel
theorem dL_tries_127 : decode cL_tries 127 = .ok (.iload 5, 2) := by decide +kernel
theorem dL_tries_129 : decode cL_tries 129 = .ok (.invokevirtual 35, 3) := by decide +kernel
theorem dL_tries_132 : decode cL_tries 132 = .ok (.ifCond .lt 38, 3) := by decide +kernel
theorem dL_tries_135 : decode cL_tries 135 = .ok (.aload_n 0, 1) := by decide +kernel
theorem dL_tries_136 : decode cL_tries 136 = .ok (.iload_n 2, 1) := by decide +kernel
theorem dL_tries_137 : decode cL_tries 137 = .ok (.invokevirtual 73, 3) := by decide +kernel
theorem dL_tries_140 : decode cL_tries 140 = .ok (.ifCond .ne 30, 3) := by decide +kernel
theorem dL_tries_143 : decode cL_tries 143 = .ok (.aload_n 0, 1) := by decide +kernel
theorem dL_tries_144 : decode cL_tries 144 = .ok (.iload_n 2, 1) := by decide +kernel
theorem dL_tries_145 : decode cL_tries 145 = .ok (.iconst 1, 1) := by decide +kernel
theorem dL_tries_146 : decode cL_tries 146 = .ok (.invokevirtual 70, 3) := by decide +kernel
theorem dL_tries_149 : decode cL_tries 149 = .ok (.aload_n 0, 1) := by decide +kernel
theorem dL_tries_150 : decode cL_tries 150 = .ok (.iload_n 2, 1) := by decide +kernel
theorem dL_tries_151 : decode cL_tries 151 = .ok (.bipush 6, 2) := by decide +kernel
theorem dL_tries_153 : decode cL_tries 153 = .ok (.invokevirtual 38, 3) := by decide +kernel
theorem dL_tries_156 : decode cL_tries 156 = .ok (.if_icmp .ne 14, 3) := by decide +kernel
theorem dL_tries_159 : decode cL_tries 159 = .ok (.aload_n 0, 1) := by decide +kernel
theorem dL_tries_160 : decode cL_tries 160 = .ok (.invokevirtual 76, 3) := by decide +kernel
theorem dL_tries_163 : decode cL_tries 163 = .ok (.ifCond .lt 7, 3) := by decide +kernel
theorem dL_tries_166 : decode cL_tries 166 = .ok (.iconst 1, 1) := by decide +kernel
theorem dL_tries_167 : decode cL_tries 167 = .ok (.goto 4, 3) := by decide +kernel
theorem dL_tries_170 : decode cL_tries 170 = .ok (.iconst 0, 1) := by decide +kernel
theorem dL_tries_171 : decode cL_tries 171 = .ok (.istore 7, 2) := by decide +kernel
theorem dL_tries_173 : decode cL_tries 173 = .ok (.iload 7, 2) := by decide +kernel
theorem dL_tries_175 : decode cL_tries 175 = .ok (.ifCond .eq 36, 3) := by decide +kernel
theorem dL_tries_178 : decode cL_tries 178 = .ok (.iload 5, 2) := by decide +kernel
theorem dL_tries_180 : decode cL_tries 180 = .ok (.ifCond .ne 7, 3) := by decide +kernel
theorem dL_tries_183 : decode cL_tries 183 = .ok (.iconst 1, 1) := by decide +kernel
theorem dL_tries_184 : decode cL_tries 184 = .ok (.goto 4, 3) := by decide +kernel
theorem dL_tries_187 : decode cL_tries 187 = .ok (.iconst 0, 1) := by decide +kernel
theorem dL_tries_188 : decode cL_tries 188 = .ok (.aload_n 0, 1) := by decide +kernel
theorem dL_tries_189 : decode cL_tries 189 = .ok (.iload_n 2, 1) := by decide +kernel
theorem dL_tries_190 : decode cL_tries 190 = .ok (.iconst 1, 1) := by decide +kernel
theorem dL_tries_191 : decode cL_tries 191 = .ok (.invokevirtual 70, 3) := by decide +kernel
theorem dL_tries_194 : decode cL_tries 194 = .ok (.iload 6, 2) := by decide +kernel
theorem dL_tries_196 : decode cL_tries 196 = .ok (.if_icmp .ne 7, 3) := by decide +kernel
theorem dL_tries_199 : decode cL_tries 199 = .ok (.iconst 1, 1) := by decide +kernel
theorem dL_tries_200 : decode cL_tries 200 = .ok (.goto 4, 3) := by decide +kernel
theorem dL_tries_203 : decode cL_tries 203 = .ok (.iconst 0, 1) := by decide +kernel
theorem dL_tries_204 : decode cL_tries 204 = .ok (.if_icmp .ne 7, 3) := by decide +kernel
theorem dL_tries_207 : decode cL_tries 207 = .ok (.iconst 1, 1) := by decide +kernel
theorem dL_tries_208 : decode cL_tries 208 = .ok (.goto 4, 3) := by decide +kernel
theorem dL_tries_211 : decode cL_tries 211 = .ok (.iconst 0, 1) := by decide +kernel
theorem dL_tries_212 : decode cL_tries 212 = .ok (.istore 7, 2) := by decide +kernel
theorem dL_tries_214 : decode cL_tries 214 = .ok (.aload_n 0, 1) := by decide +kernel
theorem dL_tries_215 : decode cL_tries 215 = .ok (.iload_n 2, 1) := by decide +kernel
theorem dL_tries_216 : decode cL_tries 216 = .ok (.invokevirtual 79, 3) := by decide +kernel
theorem dL_tries_219 : decode cL_tries 219 = .ok (.istore 8, 2) := by decide +kernel
theorem dL_tries_221 : decode cL_tries 221 = .ok (.aload_n 0, 1) := by decide +kernel
theorem dL_tries_222 : decode cL_tries 222 = .ok (.iload_n 2, 1) := by decide +kernel
theorem dL_tries_223 : decode cL_tries 223 = .ok (.invokevirtual 82, 3) := by decide +kernel
theorem dL_tries_226 : decode cL_tries 226 = .ok (.istore 9, 2) := by decide +kernel
theorem dL_tries_228 : decode cL_tries 228 = .ok (.iload 7, 2) := by decide +kernel
theorem dL_tries_230 : decode cL_tries 230 = .ok (.ifCond .eq 58, 3) := by decide +kernel
theorem dL_tries_233 : decode cL_tries 233 = .ok (.iload 8, 2) := by decide +kernel
theorem dL_tries_235 : decode cL_tries 235 = .ok (.bipush (-5), 2) := by decide +kernel
theorem dL_tries_237 : decode cL_tries 237 = .ok (.if_icmp .eq 30, 3) := by decide +kernel
theorem dL_tries_240 : decode cL_tries 240 = .ok (.aload_n 0, 1) := by decide +kernel
theorem dL_tries_241 : decode cL_tries 241 = .ok (.iload_n 2, 1) := by decide +kernel
theorem dL_tries_242 : decode cL_tries 242 = .ok (.iload 8, 2) := by decide +kernel
theorem dL_tries_244 : decode cL_tries 244 = .ok (.invokestatic 85, 3) := by decide +kernel
theorem dL_tries_247 : decode cL_tries 247 = .ok (.ifCond .eq 41, 3) := by decide +kernel
theorem dL_tries_250 : decode cL_tries 250 = .ok (.iload 8, 2) := by decide +kernel
theorem dL_tries_252 : decode cL_tries 252 = .ok (.ifCond .eq 15, 3) := by decide +kernel
theorem dL_tries_255 : decode cL_tries 255 = .ok (.aload_n 0, 1) := by decide +kernel
theorem dL_tries_256 : decode cL_tries 256 = .ok (.iload_n 2, 1) := by decide +kernel
theorem dL_tries_257 : decode cL_tries 257 = .ok (.iload 8, 2) := by decide +kernel
theorem dL_tries_259 : decode cL_tries 259 = .ok (.iconst 1, 1) := by decide +kernel
theorem dL_tries_260 : decode cL_tries 260 = .ok (.isub, 1) := by decide +kernel
theorem dL_tries_261 : decode cL_tries 261 = .ok (.invokestatic 85, 3) := by decide +kernel
theorem dL_tries_264 : decode cL_tries 264 = .ok (.ifCond .ne 24, 3) := by decide +kernel
theorem dL_tries_267 : decode cL_tries 267 = .ok (.iload 8, 2) := by decide +kernel
theorem dL_tries_269 : decode cL_tries 269 = .ok (.bipush (-5), 2) := by decide +kernel
theorem dL_tries_271 : decode cL_tries 271 = .ok (.if_icmp .ne 13, 3) := by decide +kernel
theorem dL_tries_274 : decode cL_tries 274 = .ok (.aload_n 0, 1) := by decide +kernel
theorem dL_tries_275 : decode cL_tries 275 = .ok (.iload_n 2, 1) := by decide +kernel
theorem dL_tries_276 : decode cL_tries 276 = .ok (.bipush 30, 2) := by decide +kernel
theorem dL_tries_278 : decode cL_tries 278 = .ok (.invokestatic 85, 3) := by decide +kernel
theorem dL_tries_281 : decode cL_tries 281 = .ok (.ifCond .ne 7, 3) := by decide +kernel
theorem dL_tries_284 : decode cL_tries 284 = .ok (.iconst 1, 1) := by decide +kernel
theorem dL_tries_285 : decode cL_tries 285 = .ok (.goto 4, 3) := by decide +kernel
theorem dL_tries_288 : decode cL_tries 288 = .ok (.iconst 0, 1) := by decide +kernel
