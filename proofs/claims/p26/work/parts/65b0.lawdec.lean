theorem dL_couples_0 : decode cL_couples 0 = .ok (.aload_n 0, 1) := by decide +kernel
theorem dL_couples_1 : decode cL_couples 1 = .ok (.iload_n 1, 1) := by decide +kernel
theorem dL_couples_2 : decode cL_couples 2 = .ok (.bipush 8, 2) := by decide +kernel
theorem dL_couples_4 : decode cL_couples 4 = .ok (.invokevirtual 38, 3) := by decide +kernel
theorem dL_couples_7 : decode cL_couples 7 = .ok (.istore_n 3, 1) := by decide +kernel
theorem dL_couples_8 : decode cL_couples 8 = .ok (.aload_n 0, 1) := by decide +kernel
theorem dL_couples_9 : decode cL_couples 9 = .ok (.iload_n 2, 1) := by decide +kernel
theorem dL_couples_10 : decode cL_couples 10 = .ok (.bipush 8, 2) := by decide +kernel
theorem dL_couples_12 : decode cL_couples 12 = .ok (.invokevirtual 38, 3) := by decide +kernel
theorem dL_couples_15 : decode cL_couples 15 = .ok (.istore 4, 2) := by decide +kernel
theorem dL_couples_17 : decode cL_couples 17 = .ok (.aload_n 0, 1) := by decide +kernel
theorem dL_couples_18 : decode cL_couples 18 = .ok (.iload_n 1, 1) := by decide +kernel
theorem dL_couples_19 : decode cL_couples 19 = .ok (.bipush 7, 2) := by decide +kernel
theorem dL_couples_21 : decode cL_couples 21 = .ok (.invokevirtual 38, 3) := by decide +kernel
theorem dL_couples_24 : decode cL_couples 24 = .ok (.istore 5, 2) := by decide +kernel
theorem dL_couples_26 : decode cL_couples 26 = .ok (.aload_n 0, 1) := by decide +kernel
theorem dL_couples_27 : decode cL_couples 27 = .ok (.iload_n 2, 1) := by decide +kernel
theorem dL_couples_28 : decode cL_couples 28 = .ok (.bipush 7, 2) := by decide +kernel
theorem dL_couples_30 : decode cL_couples 30 = .ok (.invokevirtual 38, 3) := by decide +kernel
theorem dL_couples_33 : decode cL_couples 33 = .ok (.istore 6, 2) := by decide +kernel
theorem dL_couples_35 : decode cL_couples 35 = .ok (.aload_n 0, 1) := by decide +kernel
theorem dL_couples_36 : decode cL_couples 36 = .ok (.iload_n 1, 1) := by decide +kernel
theorem dL_couples_37 : decode cL_couples 37 = .ok (.iconst 0, 1) := by decide +kernel
theorem dL_couples_38 : decode cL_couples 38 = .ok (.invokevirtual 41, 3) := by decide +kernel
theorem dL_couples_41 : decode cL_couples 41 = .ok (.aload_n 0, 1) := by decide +kernel
theorem dL_couples_42 : decode cL_couples 42 = .ok (.iload_n 2, 1) := by decide +kernel
theorem dL_couples_43 : decode cL_couples 43 = .ok (.iconst 0, 1) := by decide +kernel
theorem dL_couples_44 : decode cL_couples 44 = .ok (.invokevirtual 41, 3) := by decide +kernel
theorem dL_couples_47 : decode cL_couples 47 = .ok (.ladd, 1) := by decide +kernel
theorem dL_couples_48 : decode cL_couples 48 = .ok (.lstore 7, 2) := by decide +kernel
theorem dL_couples_50 : decode cL_couples 50 = .ok (.aload_n 0, 1) := by decide +kernel
theorem dL_couples_51 : decode cL_couples 51 = .ok (.iload_n 1, 1) := by decide +kernel
theorem dL_couples_52 : decode cL_couples 52 = .ok (.iconst 3, 1) := by decide +kernel
theorem dL_couples_53 : decode cL_couples 53 = .ok (.invokevirtual 41, 3) := by decide +kernel
theorem dL_couples_56 : decode cL_couples 56 = .ok (.aload_n 0, 1) := by decide +kernel
theorem dL_couples_57 : decode cL_couples 57 = .ok (.iload_n 2, 1) := by decide +kernel
theorem dL_couples_58 : decode cL_couples 58 = .ok (.iconst 3, 1) := by decide +kernel
theorem dL_couples_59 : decode cL_couples 59 = .ok (.invokevirtual 41, 3) := by decide +kernel
theorem dL_couples_62 : decode cL_couples 62 = .ok (.ladd, 1) := by decide +kernel
theorem dL_couples_63 : decode cL_couples 63 = .ok (.lstore 9, 2) := by decide +kernel
theorem dL_couples_65 : decode cL_couples 65 = .ok (.aload_n 0, 1) := by decide +kernel
theorem dL_couples_66 : decode cL_couples 66 = .ok (.bipush 7, 2) := by decide +kernel
theorem dL_couples_68 : decode cL_couples 68 = .ok (.invokevirtual 45, 3) := by decide +kernel
theorem dL_couples_71 : decode cL_couples 71 = .ok (.istore 11, 2) := by decide +kernel
theorem dL_couples_73 : decode cL_couples 73 = .ok (.aload_n 0, 1) := by decide +kernel
theorem dL_couples_74 : decode cL_couples 74 = .ok (.iload_n 1, 1) := by decide +kernel
theorem dL_couples_75 : decode cL_couples 75 = .ok (.bipush 10, 2) := by decide +kernel
theorem dL_couples_77 : decode cL_couples 77 = .ok (.invokevirtual 38, 3) := by decide +kernel
theorem dL_couples_80 : decode cL_couples 80 = .ok (.ifCond .ne 17, 3) := by decide +kernel
theorem dL_couples_83 : decode cL_couples 83 = .ok (.aload_n 0, 1) := by decide +kernel
theorem dL_couples_84 : decode cL_couples 84 = .ok (.iload_n 2, 1) := by decide +kernel
theorem dL_couples_85 : decode cL_couples 85 = .ok (.bipush 10, 2) := by decide +kernel
theorem dL_couples_87 : decode cL_couples 87 = .ok (.invokevirtual 38, 3) := by decide +kernel
theorem dL_couples_90 : decode cL_couples 90 = .ok (.ifCond .ne 7, 3) := by decide +kernel
theorem dL_couples_93 : decode cL_couples 93 = .ok (.iconst 1, 1) := by decide +kernel
theorem dL_couples_94 : decode cL_couples 94 = .ok (.goto 4, 3) := by decide +kernel
theorem dL_couples_97 : decode cL_couples 97 = .ok (.iconst 0, 1) := by decide +kernel
theorem dL_couples_98 : decode cL_couples 98 = .ok (.istore 12, 2) := by decide +kernel
theorem dL_couples_100 : decode cL_couples 100 = .ok (.aload_n 0, 1) := by decide +kernel
theorem dL_couples_101 : decode cL_couples 101 = .ok (.iload_n 1, 1) := by decide +kernel
theorem dL_couples_102 : decode cL_couples 102 = .ok (.iload_n 2, 1) := by decide +kernel
theorem dL_couples_103 : decode cL_couples 103 = .ok (.invokevirtual 48, 3) := by decide +kernel
theorem dL_couples_106 : decode cL_couples 106 = .ok (.istore 13, 2) := by decide +kernel
theorem dL_couples_108 : decode cL_couples 108 = .ok (.iload 13, 2) := by decide +kernel
theorem dL_couples_110 : decode cL_couples 110 = .ok (.ifCond .ge 89, 3) := by decide +kernel
theorem dL_couples_113 : decode cL_couples 113 = .ok (.iload_n 1, 1) := by decide +kernel
theorem dL_couples_114 : decode cL_couples 114 = .ok (.iload_n 2, 1) := by decide +kernel
theorem dL_couples_115 : decode cL_couples 115 = .ok (.if_icmp .ne 18, 3) := by decide +kernel
theorem dL_couples_118 : decode cL_couples 118 = .ok (.iload 13, 2) := by decide +kernel
theorem dL_couples_120 : decode cL_couples 120 = .ok (.bipush (-2), 2) := by decide +kernel
theorem dL_couples_122 : decode cL_couples 122 = .ok (.if_icmp .ne 7, 3) := by decide +kernel
theorem dL_couples_125 : decode cL_couples 125 = .ok (.iconst 1, 1) := by decide +kernel
theorem dL_couples_126 : decode cL_couples 126 = .ok (.goto 46, 3) := by decide +kernel
theorem dL_couples_129 : decode cL_couples 129 = .ok (.iconst 0, 1) := by decide +kernel
theorem dL_couples_130 : decode cL_couples 130 = .ok (.goto 42, 3) := by decide +kernel
theorem dL_couples_133 : decode cL_couples 133 = .ok (.iload 12, 2) := by decide +kernel
theorem dL_couples_135 : decode cL_couples 135 = .ok (.ifCond .ne 18, 3) := by decide +kernel
theorem dL_couples_138 : decode cL_couples 138 = .ok (.iload 13, 2) := by decide +kernel
theorem dL_couples_140 : decode cL_couples 140 = .ok (.bipush (-4), 2) := by decide +kernel
theorem dL_couples_142 : decode cL_couples 142 = .ok (.if_icmp .ne 7, 3) := by decide +kernel
theorem dL_couples_145 : decode cL_couples 145 = .ok (.iconst 1, 1) := by decide +kernel
theorem dL_couples_146 : decode cL_couples 146 = .ok (.goto 26, 3) := by decide +kernel
theorem dL_couples_149 : decode cL_couples 149 = .ok (.iconst 0, 1) := by decide +kernel
theorem dL_couples_150 : decode cL_couples 150 = .ok (.goto 22, 3) := by decide +kernel
theorem dL_couples_153 : decode cL_couples 153 = .ok (.iload 13, 2) := by decide +kernel
theorem dL_couples_155 : decode cL_couples 155 = .ok (.bipush (-5), 2) := by decide +kernel
theorem dL_couples_157 : decode cL_couples 157 = .ok (.if_icmp .eq 10, 3) := by decide +kernel
theorem dL_couples_160 : decode cL_couples 160 = .ok (.iload 13, 2) := by decide +kernel
theorem dL_couples_162 : decode cL_couples 162 = .ok (.bipush (-3), 2) := by decide +kernel
theorem dL_couples_164 : decode cL_couples 164 = .ok (.if_icmp .ne 7, 3) := by decide +kernel
theorem dL_couples_167 : decode cL_couples 167 = .ok (.iconst 1, 1) := by decide +kernel
theorem dL_couples_168 : decode cL_couples 168 = .ok (.goto 4, 3) := by decide +kernel
theorem dL_couples_171 : decode cL_couples 171 = .ok (.iconst 0, 1) := by decide +kernel
theorem dL_couples_172 : decode cL_couples 172 = .ok (.istore 14, 2) := by decide +kernel
theorem dL_couples_174 : decode cL_couples 174 = .ok (.iload 14, 2) := by decide +kernel
theorem dL_couples_176 : decode cL_couples 176 = .ok (.ifCond .eq 19, 3) := by decide +kernel
theorem dL_couples_179 : decode cL_couples 179 = .ok (.aload_n 0, 1) := by decide +kernel
theorem dL_couples_180 : decode cL_couples 180 = .ok (.bipush 7, 2) := by decide +kernel
theorem dL_couples_182 : decode cL_couples 182 = .ok (.invokevirtual 45, 3) := by decide +kernel
theorem dL_couples_185 : decode cL_couples 185 = .ok (.iload 11, 2) := by decide +kernel
theorem dL_couples_187 : decode cL_couples 187 = .ok (.if_icmp .ne 8, 3) := by decide +kernel
theorem dL_couples_190 : decode cL_couples 190 = .ok (.iload 13, 2) := by decide +kernel
theorem dL_couples_192 : decode cL_couples 192 = .ok (.goto 6, 3) := by decide +kernel
theorem dL_couples_195 : decode cL_couples 195 = .ok (.sipush (-1000), 3) := by decide +kernel
theorem dL_couples_198 : decode cL_couples 198 = .ok (.ireturn, 1) := by decide +kernel
theorem dL_couples_199 : decode cL_couples 199 = .ok (.iload_n 3, 1) := by decide +kernel
theorem dL_couples_200 : decode cL_couples 200 = .ok (.i2l, 1) := by decide +kernel
theorem dL_couples_201 : decode cL_couples 201 = .ok (.iload 4, 2) := by decide +kernel
theorem dL_couples_203 : decode cL_couples 203 = .ok (.i2l, 1) := by decide +kernel
theorem dL_couples_204 : decode cL_couples 204 = .ok (.ladd, 1) := by decide +kernel
theorem dL_couples_205 : decode cL_couples 205 = .ok (.iload 5, 2) := by decide +kernel
theorem dL_couples_207 : decode cL_couples 207 = .ok (.i2l, 1) := by decide +kernel
theorem dL_couples_208 : decode cL_couples 208 = .ok (.lmul, 1) := by decide +kernel
theorem dL_couples_209 : decode cL_couples 209 = .ok (.iload 5, 2) := by decide +kernel
theorem dL_couples_211 : decode cL_couples 211 = .ok (.iload 6, 2) := by decide +kernel
theorem dL_couples_213 : decode cL_couples 213 = .ok (.iadd, 1) := by decide +kernel
theorem dL_couples_214 : decode cL_couples 214 = .ok (.i2l, 1) := by decide +kernel
theorem dL_couples_215 : decode cL_couples 215 = .ok (.ldiv, 1) := by decide +kernel
theorem dL_couples_216 : decode cL_couples 216 = .ok (.lstore 14, 2) := by decide +kernel
theorem dL_couples_218 : decode cL_couples 218 = .ok (.iload_n 1, 1) := by decide +kernel
theorem dL_couples_219 : decode cL_couples 219 = .ok (.iload_n 2, 1) := by decide +kernel
theorem dL_couples_220 : decode cL_couples 220 = .ok (.if_icmp .eq 56, 3) := by decide +kernel
theorem dL_couples_223 : decode cL_couples 223 = .ok (.iload 12, 2) := by decide +kernel
theorem dL_couples_225 : decode cL_couples 225 = .ok (.ifCond .eq 51, 3) := by decide +kernel
theorem dL_couples_228 : decode cL_couples 228 = .ok (.iload 13, 2) := by decide +kernel
theorem dL_couples_230 : decode cL_couples 230 = .ok (.i2l, 1) := by decide +kernel
theorem dL_couples_231 : decode cL_couples 231 = .ok (.lload 14, 2) := by decide +kernel
theorem dL_couples_233 : decode cL_couples 233 = .ok (.lcmp, 1) := by decide +kernel
theorem dL_couples_234 : decode cL_couples 234 = .ok (.ifCond .ne 42, 3) := by decide +kernel
theorem dL_couples_237 : decode cL_couples 237 = .ok (.aload_n 0, 1) := by decide +kernel
theorem dL_couples_238 : decode cL_couples 238 = .ok (.iload_n 1, 1) := by decide +kernel
theorem dL_couples_239 : decode cL_couples 239 = .ok (.bipush 8, 2) := by decide +kernel
theorem dL_couples_241 : decode cL_couples 241 = .ok (.invokevirtual 38, 3) := by decide +kernel
theorem dL_couples_244 : decode cL_couples 244 = .ok (.iload 13, 2) := by decide +kernel
theorem dL_couples_246 : decode cL_couples 246 = .ok (.if_icmp .ne 30, 3) := by decide +kernel
theorem dL_couples_249 : decode cL_couples 249 = .ok (.aload_n 0, 1) := by decide +kernel
theorem dL_couples_250 : decode cL_couples 250 = .ok (.iload_n 2, 1) := by decide +kernel
theorem dL_couples_251 : decode cL_couples 251 = .ok (.bipush 8, 2) := by decide +kernel
theorem dL_couples_253 : decode cL_couples 253 = .ok (.invokevirtual 38, 3) := by decide +kernel
theorem dL_couples_256 : decode cL_couples 256 = .ok (.iload_n 3, 1) := by decide +kernel
theorem dL_couples_257 : decode cL_couples 257 = .ok (.iload 4, 2) := by decide +kernel
theorem dL_couples_259 : decode cL_couples 259 = .ok (.iadd, 1) := by decide +kernel
theorem dL_couples_260 : decode cL_couples 260 = .ok (.iload 13, 2) := by decide +kernel
theorem dL_couples_262 : decode cL_couples 262 = .ok (.isub, 1) := by decide +kernel
theorem dL_couples_263 : decode cL_couples 263 = .ok (.if_icmp .ne 13, 3) := by decide +kernel
theorem dL_couples_266 : decode cL_couples 266 = .ok (.iload 13, 2) := by decide +kernel
theorem dL_couples_268 : decode cL_couples 268 = .ok (.iload_n 3, 1) := by decide +kernel
theorem dL_couples_269 : decode cL_couples 269 = .ok (.if_icmp .eq 7, 3) := by decide +kernel
theorem dL_couples_272 : decode cL_couples 272 = .ok (.iconst 1, 1) := by decide +kernel
theorem dL_couples_273 : decode cL_couples 273 = .ok (.goto 4, 3) := by decide +kernel
