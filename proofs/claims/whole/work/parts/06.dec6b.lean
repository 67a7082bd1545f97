set_option maxRecDepth 20000 in
theorem ggX6_couples_X6_isOn : GoodIn wsX6_couples wsX6_isOn := goodIn_r _ [8, 9, 10, 11, 7, 12, 2, 13, 14, 15, 32, 33, 34, 35, 36, 37, 38, 39, 40, 41, 42, 43, 44, 45, 46, 47, 48, 49, 50, 51, 52, 53] (by decide +kernel) (by decide +kernel)
set_option maxRecDepth 20000 in
theorem gX6_couples_X6_isOn : GoodIn wsX6_couples (wsV RX6 62 RX6 yX6_isOn wsX6_isOn) := goodIn_app (goodIn_of _ (by decide +kernel)) ggX6_couples_X6_isOn
set_option maxRecDepth 20000 in
theorem ggX6_couples_X6_of : GoodIn wsX6_couples wsX6_of := goodIn_r _ [12, 2, 13, 14, 7, 15, 32, 33, 34, 35, 36, 37, 38, 39, 40, 41, 42, 43, 44, 45, 46, 47, 48, 49, 50, 51, 52, 53] (by decide +kernel) (by decide +kernel)
set_option maxRecDepth 20000 in
theorem gX6_couples_X6_of : GoodIn wsX6_couples (wsV RX6 53 RX6 yX6_of wsX6_of) := goodIn_app (goodIn_of _ (by decide +kernel)) ggX6_couples_X6_of
set_option maxRecDepth 20000 in
theorem ggX6_couples_X6_capacityNow : GoodIn wsX6_couples wsX6_capacityNow := goodIn_r _ [19, 9, 10, 11, 7, 12, 2, 13, 14, 15, 20, 21, 22, 23, 32, 33, 34, 35, 36, 37, 38, 39, 40, 41, 42, 43, 44, 45, 46, 47, 48, 49, 50, 51, 52, 53] (by decide +kernel) (by decide +kernel)
set_option maxRecDepth 20000 in
theorem gX6_couples_X6_capacityNow : GoodIn wsX6_couples (wsV RX6 66 RX6 yX6_capacityNow wsX6_capacityNow) := goodIn_app (goodIn_of _ (by decide +kernel)) ggX6_couples_X6_capacityNow
set_option maxRecDepth 20000 in
theorem ggX6_couples_X6_stored : GoodIn wsX6_couples wsX6_stored := goodIn_r _ [27, 9, 10, 11, 7, 12, 2, 13, 14, 15, 4, 5, 6, 8, 16, 17, 18, 19, 20, 21, 22, 23, 32, 33, 34, 35, 36, 37, 38, 39, 40, 41, 42, 43, 44, 45, 46, 47, 48, 49, 50, 51, 52, 53] (by decide +kernel) (by decide +kernel)
set_option maxRecDepth 20000 in
theorem gX6_couples_X6_stored : GoodIn wsX6_couples (wsV RX6 90 RX6 yX6_stored wsX6_stored) := goodIn_app (goodIn_of _ (by decide +kernel)) ggX6_couples_X6_stored
set_option maxRecDepth 20000 in
theorem ggX6_couples_X6_at : GoodIn wsX6_couples wsX6_at := goodIn_r _ [15] (by decide +kernel) (by decide +kernel)
set_option maxRecDepth 20000 in
theorem gX6_couples_X6_at : GoodIn wsX6_couples (va_wsS RX6 45 yX6_at wsX6_at) := goodIn_app (goodIn_of _ (by decide +kernel)) ggX6_couples_X6_at
set_option maxRecDepth 20000 in
theorem ggX6_couples_X6_half : GoodIn wsX6_couples wsX6_half := goodIn_r _ [30, 31] (by decide +kernel) (by decide +kernel)
set_option maxRecDepth 20000 in
theorem gX6_couples_X6_half : GoodIn wsX6_couples (va_wsS RX6 112 yX6_half wsX6_half) := goodIn_app (goodIn_of _ (by decide +kernel)) ggX6_couples_X6_half
theorem dX6_couples_0 : decode cX6_couples 0 = .ok (.iload_n 1, 1) := by decide +kernel
theorem dX6_couples_1 : decode cX6_couples 1 = .ok (.iload_n 2, 1) := by decide +kernel
theorem dX6_couples_2 : decode cX6_couples 2 = .ok (.if_icmp .ne 6, 3) := by decide +kernel
theorem dX6_couples_5 : decode cX6_couples 5 = .ok (.bipush (-2), 2) := by decide +kernel
theorem dX6_couples_7 : decode cX6_couples 7 = .ok (.ireturn, 1) := by decide +kernel
theorem dX6_couples_8 : decode cX6_couples 8 = .ok (.aload_n 0, 1) := by decide +kernel
theorem dX6_couples_9 : decode cX6_couples 9 = .ok (.iload_n 1, 1) := by decide +kernel
theorem dX6_couples_10 : decode cX6_couples 10 = .ok (.invokevirtual 62, 3) := by decide +kernel
theorem dX6_couples_13 : decode cX6_couples 13 = .ok (.ifCond .ne 11, 3) := by decide +kernel
theorem dX6_couples_16 : decode cX6_couples 16 = .ok (.aload_n 0, 1) := by decide +kernel
theorem dX6_couples_17 : decode cX6_couples 17 = .ok (.iload_n 2, 1) := by decide +kernel
theorem dX6_couples_18 : decode cX6_couples 18 = .ok (.invokevirtual 62, 3) := by decide +kernel
theorem dX6_couples_21 : decode cX6_couples 21 = .ok (.ifCond .eq 6, 3) := by decide +kernel
theorem dX6_couples_24 : decode cX6_couples 24 = .ok (.bipush (-4), 2) := by decide +kernel
theorem dX6_couples_26 : decode cX6_couples 26 = .ok (.ireturn, 1) := by decide +kernel
theorem dX6_couples_27 : decode cX6_couples 27 = .ok (.aload_n 0, 1) := by decide +kernel
theorem dX6_couples_28 : decode cX6_couples 28 = .ok (.iload_n 1, 1) := by decide +kernel
theorem dX6_couples_29 : decode cX6_couples 29 = .ok (.bipush 7, 2) := by decide +kernel
theorem dX6_couples_31 : decode cX6_couples 31 = .ok (.invokevirtual 53, 3) := by decide +kernel
theorem dX6_couples_34 : decode cX6_couples 34 = .ok (.aload_n 0, 1) := by decide +kernel
theorem dX6_couples_35 : decode cX6_couples 35 = .ok (.iload_n 2, 1) := by decide +kernel
theorem dX6_couples_36 : decode cX6_couples 36 = .ok (.bipush 7, 2) := by decide +kernel
theorem dX6_couples_38 : decode cX6_couples 38 = .ok (.invokevirtual 53, 3) := by decide +kernel
theorem dX6_couples_41 : decode cX6_couples 41 = .ok (.iadd, 1) := by decide +kernel
theorem dX6_couples_42 : decode cX6_couples 42 = .ok (.i2l, 1) := by decide +kernel
theorem dX6_couples_43 : decode cX6_couples 43 = .ok (.lstore_n 3, 1) := by decide +kernel
theorem dX6_couples_44 : decode cX6_couples 44 = .ok (.lload_n 3, 1) := by decide +kernel
theorem dX6_couples_45 : decode cX6_couples 45 = .ok (.aload_n 0, 1) := by decide +kernel
theorem dX6_couples_46 : decode cX6_couples 46 = .ok (.iload_n 1, 1) := by decide +kernel
theorem dX6_couples_47 : decode cX6_couples 47 = .ok (.invokevirtual 66, 3) := by decide +kernel
theorem dX6_couples_50 : decode cX6_couples 50 = .ok (.i2l, 1) := by decide +kernel
theorem dX6_couples_51 : decode cX6_couples 51 = .ok (.lmul, 1) := by decide +kernel
theorem dX6_couples_52 : decode cX6_couples 52 = .ok (.aload_n 0, 1) := by decide +kernel
theorem dX6_couples_53 : decode cX6_couples 53 = .ok (.iload_n 1, 1) := by decide +kernel
theorem dX6_couples_54 : decode cX6_couples 54 = .ok (.invokevirtual 66, 3) := by decide +kernel
theorem dX6_couples_57 : decode cX6_couples 57 = .ok (.aload_n 0, 1) := by decide +kernel
theorem dX6_couples_58 : decode cX6_couples 58 = .ok (.iload_n 2, 1) := by decide +kernel
theorem dX6_couples_59 : decode cX6_couples 59 = .ok (.invokevirtual 66, 3) := by decide +kernel
theorem dX6_couples_62 : decode cX6_couples 62 = .ok (.iadd, 1) := by decide +kernel
theorem dX6_couples_63 : decode cX6_couples 63 = .ok (.i2l, 1) := by decide +kernel
theorem dX6_couples_64 : decode cX6_couples 64 = .ok (.ldiv, 1) := by decide +kernel
theorem dX6_couples_65 : decode cX6_couples 65 = .ok (.l2i, 1) := by decide +kernel
theorem dX6_couples_66 : decode cX6_couples 66 = .ok (.istore 5, 2) := by decide +kernel
theorem dX6_couples_68 : decode cX6_couples 68 = .ok (.lload_n 3, 1) := by decide +kernel
theorem dX6_couples_69 : decode cX6_couples 69 = .ok (.l2i, 1) := by decide +kernel
theorem dX6_couples_70 : decode cX6_couples 70 = .ok (.iload 5, 2) := by decide +kernel
theorem dX6_couples_72 : decode cX6_couples 72 = .ok (.isub, 1) := by decide +kernel
theorem dX6_couples_73 : decode cX6_couples 73 = .ok (.istore 6, 2) := by decide +kernel
theorem dX6_couples_75 : decode cX6_couples 75 = .ok (.iload 5, 2) := by decide +kernel
theorem dX6_couples_77 : decode cX6_couples 77 = .ok (.ldc 111, 2) := by decide +kernel
theorem dX6_couples_79 : decode cX6_couples 79 = .ok (.if_icmp .gt 10, 3) := by decide +kernel
theorem dX6_couples_82 : decode cX6_couples 82 = .ok (.iload 6, 2) := by decide +kernel
theorem dX6_couples_84 : decode cX6_couples 84 = .ok (.ldc 111, 2) := by decide +kernel
theorem dX6_couples_86 : decode cX6_couples 86 = .ok (.if_icmp .le 6, 3) := by decide +kernel
theorem dX6_couples_89 : decode cX6_couples 89 = .ok (.bipush (-3), 2) := by decide +kernel
theorem dX6_couples_91 : decode cX6_couples 91 = .ok (.ireturn, 1) := by decide +kernel
theorem dX6_couples_92 : decode cX6_couples 92 = .ok (.iload 5, 2) := by decide +kernel
theorem dX6_couples_94 : decode cX6_couples 94 = .ok (.aload_n 0, 1) := by decide +kernel
theorem dX6_couples_95 : decode cX6_couples 95 = .ok (.iload_n 1, 1) := by decide +kernel
theorem dX6_couples_96 : decode cX6_couples 96 = .ok (.bipush 7, 2) := by decide +kernel
theorem dX6_couples_98 : decode cX6_couples 98 = .ok (.invokevirtual 53, 3) := by decide +kernel
theorem dX6_couples_101 : decode cX6_couples 101 = .ok (.if_icmp .ne 6, 3) := by decide +kernel
theorem dX6_couples_104 : decode cX6_couples 104 = .ok (.bipush (-5), 2) := by decide +kernel
theorem dX6_couples_106 : decode cX6_couples 106 = .ok (.ireturn, 1) := by decide +kernel
theorem dX6_couples_107 : decode cX6_couples 107 = .ok (.aload_n 0, 1) := by decide +kernel
theorem dX6_couples_108 : decode cX6_couples 108 = .ok (.iload_n 1, 1) := by decide +kernel
theorem dX6_couples_109 : decode cX6_couples 109 = .ok (.invokevirtual 90, 3) := by decide +kernel
theorem dX6_couples_112 : decode cX6_couples 112 = .ok (.aload_n 0, 1) := by decide +kernel
theorem dX6_couples_113 : decode cX6_couples 113 = .ok (.iload_n 2, 1) := by decide +kernel
theorem dX6_couples_114 : decode cX6_couples 114 = .ok (.invokevirtual 90, 3) := by decide +kernel
theorem dX6_couples_117 : decode cX6_couples 117 = .ok (.ladd, 1) := by decide +kernel
theorem dX6_couples_118 : decode cX6_couples 118 = .ok (.lstore 7, 2) := by decide +kernel
theorem dX6_couples_120 : decode cX6_couples 120 = .ok (.aload_n 0, 1) := by decide +kernel
theorem dX6_couples_121 : decode cX6_couples 121 = .ok (.getfield 7, 3) := by decide +kernel
theorem dX6_couples_124 : decode cX6_couples 124 = .ok (.iload_n 1, 1) := by decide +kernel
theorem dX6_couples_125 : decode cX6_couples 125 = .ok (.bipush 7, 2) := by decide +kernel
theorem dX6_couples_127 : decode cX6_couples 127 = .ok (.invokestatic 45, 3) := by decide +kernel
theorem dX6_couples_130 : decode cX6_couples 130 = .ok (.iload 5, 2) := by decide +kernel
theorem dX6_couples_132 : decode cX6_couples 132 = .ok (.iastore, 1) := by decide +kernel
theorem dX6_couples_133 : decode cX6_couples 133 = .ok (.aload_n 0, 1) := by decide +kernel
theorem dX6_couples_134 : decode cX6_couples 134 = .ok (.getfield 7, 3) := by decide +kernel
theorem dX6_couples_137 : decode cX6_couples 137 = .ok (.iload_n 2, 1) := by decide +kernel
theorem dX6_couples_138 : decode cX6_couples 138 = .ok (.bipush 7, 2) := by decide +kernel
theorem dX6_couples_140 : decode cX6_couples 140 = .ok (.invokestatic 45, 3) := by decide +kernel
theorem dX6_couples_143 : decode cX6_couples 143 = .ok (.iload 6, 2) := by decide +kernel
theorem dX6_couples_145 : decode cX6_couples 145 = .ok (.iastore, 1) := by decide +kernel
theorem dX6_couples_146 : decode cX6_couples 146 = .ok (.lload 7, 2) := by decide +kernel
theorem dX6_couples_148 : decode cX6_couples 148 = .ok (.aload_n 0, 1) := by decide +kernel
theorem dX6_couples_149 : decode cX6_couples 149 = .ok (.iload_n 1, 1) := by decide +kernel
theorem dX6_couples_150 : decode cX6_couples 150 = .ok (.invokevirtual 90, 3) := by decide +kernel
theorem dX6_couples_153 : decode cX6_couples 153 = .ok (.lsub, 1) := by decide +kernel
theorem dX6_couples_154 : decode cX6_couples 154 = .ok (.aload_n 0, 1) := by decide +kernel
theorem dX6_couples_155 : decode cX6_couples 155 = .ok (.iload_n 2, 1) := by decide +kernel
theorem dX6_couples_156 : decode cX6_couples 156 = .ok (.invokevirtual 90, 3) := by decide +kernel
theorem dX6_couples_159 : decode cX6_couples 159 = .ok (.lsub, 1) := by decide +kernel
theorem dX6_couples_160 : decode cX6_couples 160 = .ok (.lstore 9, 2) := by decide +kernel
theorem dX6_couples_162 : decode cX6_couples 162 = .ok (.aload_n 0, 1) := by decide +kernel
theorem dX6_couples_163 : decode cX6_couples 163 = .ok (.getfield 13, 3) := by decide +kernel
theorem dX6_couples_166 : decode cX6_couples 166 = .ok (.iconst 3, 1) := by decide +kernel
theorem dX6_couples_167 : decode cX6_couples 167 = .ok (.iload_n 1, 1) := by decide +kernel
theorem dX6_couples_168 : decode cX6_couples 168 = .ok (.imul, 1) := by decide +kernel
theorem dX6_couples_169 : decode cX6_couples 169 = .ok (.iconst 2, 1) := by decide +kernel
theorem dX6_couples_170 : decode cX6_couples 170 = .ok (.iadd, 1) := by decide +kernel
theorem dX6_couples_171 : decode cX6_couples 171 = .ok (.dup2, 1) := by decide +kernel
theorem dX6_couples_172 : decode cX6_couples 172 = .ok (.laload, 1) := by decide +kernel
theorem dX6_couples_173 : decode cX6_couples 173 = .ok (.lload 9, 2) := by decide +kernel
theorem dX6_couples_175 : decode cX6_couples 175 = .ok (.invokestatic 112, 3) := by decide +kernel
theorem dX6_couples_178 : decode cX6_couples 178 = .ok (.ladd, 1) := by decide +kernel
theorem dX6_couples_179 : decode cX6_couples 179 = .ok (.lastore, 1) := by decide +kernel
theorem dX6_couples_180 : decode cX6_couples 180 = .ok (.aload_n 0, 1) := by decide +kernel
theorem dX6_couples_181 : decode cX6_couples 181 = .ok (.getfield 13, 3) := by decide +kernel
theorem dX6_couples_184 : decode cX6_couples 184 = .ok (.iconst 3, 1) := by decide +kernel
theorem dX6_couples_185 : decode cX6_couples 185 = .ok (.iload_n 2, 1) := by decide +kernel
theorem dX6_couples_186 : decode cX6_couples 186 = .ok (.imul, 1) := by decide +kernel
theorem dX6_couples_187 : decode cX6_couples 187 = .ok (.iconst 2, 1) := by decide +kernel
theorem dX6_couples_188 : decode cX6_couples 188 = .ok (.iadd, 1) := by decide +kernel
theorem dX6_couples_189 : decode cX6_couples 189 = .ok (.dup2, 1) := by decide +kernel
theorem dX6_couples_190 : decode cX6_couples 190 = .ok (.laload, 1) := by decide +kernel
theorem dX6_couples_191 : decode cX6_couples 191 = .ok (.lload 9, 2) := by decide +kernel
theorem dX6_couples_193 : decode cX6_couples 193 = .ok (.lload 9, 2) := by decide +kernel
theorem dX6_couples_195 : decode cX6_couples 195 = .ok (.invokestatic 112, 3) := by decide +kernel
theorem dX6_couples_198 : decode cX6_couples 198 = .ok (.lsub, 1) := by decide +kernel
theorem dX6_couples_199 : decode cX6_couples 199 = .ok (.ladd, 1) := by decide +kernel
theorem dX6_couples_200 : decode cX6_couples 200 = .ok (.lastore, 1) := by decide +kernel
theorem dX6_couples_201 : decode cX6_couples 201 = .ok (.aload_n 0, 1) := by decide +kernel
theorem dX6_couples_202 : decode cX6_couples 202 = .ok (.getfield 7, 3) := by decide +kernel
theorem dX6_couples_205 : decode cX6_couples 205 = .ok (.iconst 1, 1) := by decide +kernel
theorem dX6_couples_206 : decode cX6_couples 206 = .ok (.dup2, 1) := by decide +kernel
theorem dX6_couples_207 : decode cX6_couples 207 = .ok (.iaload, 1) := by decide +kernel
theorem dX6_couples_208 : decode cX6_couples 208 = .ok (.iconst 1, 1) := by decide +kernel
theorem dX6_couples_209 : decode cX6_couples 209 = .ok (.iadd, 1) := by decide +kernel
theorem dX6_couples_210 : decode cX6_couples 210 = .ok (.iastore, 1) := by decide +kernel
theorem dX6_couples_211 : decode cX6_couples 211 = .ok (.iload 5, 2) := by decide +kernel
theorem dX6_couples_213 : decode cX6_couples 213 = .ok (.ireturn, 1) := by decide +kernel
set_option maxRecDepth 20000 in
theorem ggX6_acted_X6_records : GoodIn wsX6_acted wsX6_records := goodIn_r _ [5, 6, 7, 8, 9, 10, 11, 12, 13, 14, 15, 16, 17, 18, 19, 20, 21, 22, 23, 24, 25, 26, 27, 28, 29, 30, 31, 32] (by decide +kernel) (by decide +kernel)
set_option maxRecDepth 20000 in
theorem gX6_acted_X6_records : GoodIn wsX6_acted (wsV RX6 116 RX6 yX6_records wsX6_records) := goodIn_app (goodIn_of _ (by decide +kernel)) ggX6_acted_X6_records
theorem dX6_acted_0 : decode cX6_acted 0 = .ok (.iload_n 1, 1) := by decide +kernel
theorem dX6_acted_1 : decode cX6_acted 1 = .ok (.ifCond .lt 7, 3) := by decide +kernel
theorem dX6_acted_4 : decode cX6_acted 4 = .ok (.aload_n 0, 1) := by decide +kernel
theorem dX6_acted_5 : decode cX6_acted 5 = .ok (.invokevirtual 116, 3) := by decide +kernel
theorem dX6_acted_8 : decode cX6_acted 8 = .ok (.iload_n 1, 1) := by decide +kernel
theorem dX6_acted_9 : decode cX6_acted 9 = .ok (.ireturn, 1) := by decide +kernel
theorem dX6_least_0 : decode cX6_least 0 = .ok (.iload_n 0, 1) := by decide +kernel
theorem dX6_least_1 : decode cX6_least 1 = .ok (.iconst 2, 1) := by decide +kernel
theorem dX6_least_2 : decode cX6_least 2 = .ok (.if_icmp .ge 7, 3) := by decide +kernel
theorem dX6_least_5 : decode cX6_least 5 = .ok (.iconst 1, 1) := by decide +kernel
theorem dX6_least_6 : decode cX6_least 6 = .ok (.goto 4, 3) := by decide +kernel
theorem dX6_least_9 : decode cX6_least 9 = .ok (.iconst 0, 1) := by decide +kernel
theorem dX6_least_10 : decode cX6_least 10 = .ok (.ireturn, 1) := by decide +kernel
theorem dX6_most_0 : decode cX6_most 0 = .ok (.iload_n 0, 1) := by decide +kernel
theorem dX6_most_1 : decode cX6_most 1 = .ok (.tableswitch 49 0 4 #[35, 35, 38, 42, 45], 35) := by decide +kernel
theorem dX6_most_36 : decode cX6_most 36 = .ok (.bipush 9, 2) := by decide +kernel
theorem dX6_most_38 : decode cX6_most 38 = .ok (.ireturn, 1) := by decide +kernel
theorem dX6_most_39 : decode cX6_most 39 = .ok (.sipush 999, 3) := by decide +kernel
theorem dX6_most_42 : decode cX6_most 42 = .ok (.ireturn, 1) := by decide +kernel
theorem dX6_most_43 : decode cX6_most 43 = .ok (.bipush 40, 2) := by decide +kernel
theorem dX6_most_45 : decode cX6_most 45 = .ok (.ireturn, 1) := by decide +kernel
theorem dX6_most_46 : decode cX6_most 46 = .ok (.sipush 9999, 3) := by decide +kernel
theorem dX6_most_49 : decode cX6_most 49 = .ok (.ireturn, 1) := by decide +kernel
theorem dX6_most_50 : decode cX6_most 50 = .ok (.bipush 100, 2) := by decide +kernel
theorem dX6_most_52 : decode cX6_most 52 = .ok (.ireturn, 1) := by decide +kernel
set_option maxRecDepth 20000 in
theorem ggX6_set_X6_isPair : GoodIn wsX6_set wsX6_isPair := goodIn_r _ [4, 5, 6, 3, 7] (by decide +kernel) (by decide +kernel)
set_option maxRecDepth 20000 in
theorem gX6_set_X6_isPair : GoodIn wsX6_set (va_wsS RX6 119 yX6_isPair wsX6_isPair) := goodIn_app (goodIn_of _ (by decide +kernel)) ggX6_set_X6_isPair
set_option maxRecDepth 20000 in
theorem ggX6_set_X6_in : GoodIn wsX6_set wsX6_in := goodIn_r _ [7] (by decide +kernel) (by decide +kernel)
set_option maxRecDepth 20000 in
theorem gX6_set_X6_in : GoodIn wsX6_set (va_wsS RX6 49 yX6_in wsX6_in) := goodIn_app (goodIn_of _ (by decide +kernel)) ggX6_set_X6_in
set_option maxRecDepth 20000 in
theorem ggX6_set_X6_looks : GoodIn wsX6_set wsX6_looks := goodIn_r _ [11, 12, 13, 14, 15, 61, 62, 63, 64, 65, 66, 67, 68, 69, 70, 71, 72, 73, 74, 75, 76, 77, 78, 79, 80, 81, 82] (by decide +kernel) (by decide +kernel)
set_option maxRecDepth 20000 in
theorem gX6_set_X6_looks : GoodIn wsX6_set (wsV RX6 122 RX6 yX6_looks wsX6_looks) := goodIn_app (goodIn_of _ (by decide +kernel)) ggX6_set_X6_looks
set_option maxRecDepth 20000 in
theorem ggX6_set_X6_least : GoodIn wsX6_set wsX6_least := goodIn_r _ [18] (by decide +kernel) (by decide +kernel)
set_option maxRecDepth 20000 in
theorem gX6_set_X6_least : GoodIn wsX6_set (va_wsS RX6 125 yX6_least wsX6_least) := goodIn_app (goodIn_of _ (by decide +kernel)) ggX6_set_X6_least
set_option maxRecDepth 20000 in
theorem ggX6_set_X6_most : GoodIn wsX6_set wsX6_most := goodIn_r _ [21] (by decide +kernel) (by decide +kernel)
set_option maxRecDepth 20000 in
theorem gX6_set_X6_most : GoodIn wsX6_set (va_wsS RX6 128 yX6_most wsX6_most) := goodIn_app (goodIn_of _ (by decide +kernel)) ggX6_set_X6_most
set_option maxRecDepth 20000 in
theorem ggX6_set_X6_lays : GoodIn wsX6_set wsX6_lays := goodIn_r _ [25, 13, 26, 27, 28, 3, 29, 30, 31, 32, 33, 34, 35, 36, 15, 37, 38, 39, 40, 41, 42, 43, 44, 45, 46, 47, 48, 49, 61, 62, 63, 64, 65, 66, 67, 68, 69, 70, 71, 72, 73, 74, 75, 76, 77, 78, 79, 80, 81, 82] (by decide +kernel) (by decide +kernel)
set_option maxRecDepth 20000 in
theorem gX6_set_X6_lays : GoodIn wsX6_set (wsV RX6 131 RX6 yX6_lays wsX6_lays) := goodIn_app (goodIn_of _ (by decide +kernel)) ggX6_set_X6_lays
set_option maxRecDepth 20000 in
theorem ggX6_set_X6_acted : GoodIn wsX6_set wsX6_acted := goodIn_r _ [53, 54, 55, 56, 3, 57, 58, 59, 60, 12, 14, 61, 62, 63, 64, 65, 66, 67, 68, 69, 70, 71, 72, 73, 74, 75, 76, 77, 78, 79, 80, 81, 82] (by decide +kernel) (by decide +kernel)
set_option maxRecDepth 20000 in
theorem gX6_set_X6_acted : GoodIn wsX6_set (wsV RX6 134 RX6 yX6_acted wsX6_acted) := goodIn_app (goodIn_of _ (by decide +kernel)) ggX6_set_X6_acted
theorem dX6_set_0 : decode cX6_set 0 = .ok (.iload_n 1, 1) := by decide +kernel
theorem dX6_set_1 : decode cX6_set 1 = .ok (.invokestatic 119, 3) := by decide +kernel
theorem dX6_set_4 : decode cX6_set 4 = .ok (.ifCond .eq 12, 3) := by decide +kernel
theorem dX6_set_7 : decode cX6_set 7 = .ok (.iload_n 2, 1) := by decide +kernel
theorem dX6_set_8 : decode cX6_set 8 = .ok (.iconst 0, 1) := by decide +kernel
theorem dX6_set_9 : decode cX6_set 9 = .ok (.iconst 5, 1) := by decide +kernel
theorem dX6_set_10 : decode cX6_set 10 = .ok (.invokestatic 49, 3) := by decide +kernel
theorem dX6_set_13 : decode cX6_set 13 = .ok (.ifCond .ne 5, 3) := by decide +kernel
theorem dX6_set_16 : decode cX6_set 16 = .ok (.iconst (-1), 1) := by decide +kernel
theorem dX6_set_17 : decode cX6_set 17 = .ok (.ireturn, 1) := by decide +kernel
theorem dX6_set_18 : decode cX6_set 18 = .ok (.aload_n 0, 1) := by decide +kernel
theorem dX6_set_19 : decode cX6_set 19 = .ok (.invokevirtual 122, 3) := by decide +kernel
theorem dX6_set_22 : decode cX6_set 22 = .ok (.iload_n 3, 1) := by decide +kernel
theorem dX6_set_23 : decode cX6_set 23 = .ok (.iload_n 2, 1) := by decide +kernel
theorem dX6_set_24 : decode cX6_set 24 = .ok (.invokestatic 125, 3) := by decide +kernel
theorem dX6_set_27 : decode cX6_set 27 = .ok (.iload_n 2, 1) := by decide +kernel
theorem dX6_set_28 : decode cX6_set 28 = .ok (.invokestatic 128, 3) := by decide +kernel
theorem dX6_set_31 : decode cX6_set 31 = .ok (.invokestatic 49, 3) := by decide +kernel
theorem dX6_set_34 : decode cX6_set 34 = .ok (.ifCond .eq 17, 3) := by decide +kernel
theorem dX6_set_37 : decode cX6_set 37 = .ok (.aload_n 0, 1) := by decide +kernel
theorem dX6_set_38 : decode cX6_set 38 = .ok (.aload_n 0, 1) := by decide +kernel
theorem dX6_set_39 : decode cX6_set 39 = .ok (.iload_n 1, 1) := by decide +kernel
theorem dX6_set_40 : decode cX6_set 40 = .ok (.iload_n 2, 1) := by decide +kernel
theorem dX6_set_41 : decode cX6_set 41 = .ok (.iload_n 3, 1) := by decide +kernel
theorem dX6_set_42 : decode cX6_set 42 = .ok (.invokevirtual 131, 3) := by decide +kernel
theorem dX6_set_45 : decode cX6_set 45 = .ok (.invokevirtual 134, 3) := by decide +kernel
theorem dX6_set_48 : decode cX6_set 48 = .ok (.goto 5, 3) := by decide +kernel
theorem dX6_set_51 : decode cX6_set 51 = .ok (.bipush (-2), 2) := by decide +kernel
theorem dX6_set_53 : decode cX6_set 53 = .ok (.ireturn, 1) := by decide +kernel
set_option maxRecDepth 20000 in
theorem ggX6_turnOn_X6_isPair : GoodIn wsX6_turnOn wsX6_isPair := goodIn_r _ [4, 5, 6, 3, 7] (by decide +kernel) (by decide +kernel)
set_option maxRecDepth 20000 in
theorem gX6_turnOn_X6_isPair : GoodIn wsX6_turnOn (va_wsS RX6 119 yX6_isPair wsX6_isPair) := goodIn_app (goodIn_of _ (by decide +kernel)) ggX6_turnOn_X6_isPair
set_option maxRecDepth 20000 in
theorem ggX6_turnOn_X6_looks : GoodIn wsX6_turnOn wsX6_looks := goodIn_r _ [11, 12, 13, 14, 15, 55, 56, 57, 58, 59, 60, 61, 62, 63, 64, 65, 66, 67, 68, 69, 70, 71, 72, 73, 74, 75, 76] (by decide +kernel) (by decide +kernel)
set_option maxRecDepth 20000 in
theorem gX6_turnOn_X6_looks : GoodIn wsX6_turnOn (wsV RX6 122 RX6 yX6_looks wsX6_looks) := goodIn_app (goodIn_of _ (by decide +kernel)) ggX6_turnOn_X6_looks
set_option maxRecDepth 20000 in
theorem ggX6_turnOn_X6_in : GoodIn wsX6_turnOn wsX6_in := goodIn_r _ [7] (by decide +kernel) (by decide +kernel)
set_option maxRecDepth 20000 in
theorem gX6_turnOn_X6_in : GoodIn wsX6_turnOn (va_wsS RX6 49 yX6_in wsX6_in) := goodIn_app (goodIn_of _ (by decide +kernel)) ggX6_turnOn_X6_in
set_option maxRecDepth 20000 in
theorem ggX6_turnOn_X6_turnsOn : GoodIn wsX6_turnOn wsX6_turnsOn := goodIn_r _ [19, 13, 20, 21, 22, 3, 23, 24, 25, 26, 27, 28, 29, 30, 31, 32, 33, 34, 15, 35, 36, 37, 38, 39, 40, 41, 42, 43, 55, 56, 57, 58, 59, 60, 61, 62, 63, 64, 65, 66, 67, 68, 69, 70, 71, 72, 73, 74, 75, 76] (by decide +kernel) (by decide +kernel)
set_option maxRecDepth 20000 in
theorem gX6_turnOn_X6_turnsOn : GoodIn wsX6_turnOn (wsV RX6 137 RX6 yX6_turnsOn wsX6_turnsOn) := goodIn_app (goodIn_of _ (by decide +kernel)) ggX6_turnOn_X6_turnsOn
set_option maxRecDepth 20000 in
theorem ggX6_turnOn_X6_acted : GoodIn wsX6_turnOn wsX6_acted := goodIn_r _ [47, 48, 49, 50, 3, 51, 52, 53, 54, 12, 14, 55, 56, 57, 58, 59, 60, 61, 62, 63, 64, 65, 66, 67, 68, 69, 70, 71, 72, 73, 74, 75, 76] (by decide +kernel) (by decide +kernel)
set_option maxRecDepth 20000 in
theorem gX6_turnOn_X6_acted : GoodIn wsX6_turnOn (wsV RX6 134 RX6 yX6_acted wsX6_acted) := goodIn_app (goodIn_of _ (by decide +kernel)) ggX6_turnOn_X6_acted
theorem dX6_turnOn_0 : decode cX6_turnOn 0 = .ok (.iload_n 1, 1) := by decide +kernel
theorem dX6_turnOn_1 : decode cX6_turnOn 1 = .ok (.invokestatic 119, 3) := by decide +kernel
theorem dX6_turnOn_4 : decode cX6_turnOn 4 = .ok (.ifCond .ne 5, 3) := by decide +kernel
theorem dX6_turnOn_7 : decode cX6_turnOn 7 = .ok (.iconst (-1), 1) := by decide +kernel
theorem dX6_turnOn_8 : decode cX6_turnOn 8 = .ok (.ireturn, 1) := by decide +kernel
theorem dX6_turnOn_9 : decode cX6_turnOn 9 = .ok (.aload_n 0, 1) := by decide +kernel
theorem dX6_turnOn_10 : decode cX6_turnOn 10 = .ok (.invokevirtual 122, 3) := by decide +kernel
theorem dX6_turnOn_13 : decode cX6_turnOn 13 = .ok (.iload_n 2, 1) := by decide +kernel
theorem dX6_turnOn_14 : decode cX6_turnOn 14 = .ok (.iconst 0, 1) := by decide +kernel
theorem dX6_turnOn_15 : decode cX6_turnOn 15 = .ok (.bipush 30, 2) := by decide +kernel
theorem dX6_turnOn_17 : decode cX6_turnOn 17 = .ok (.invokestatic 49, 3) := by decide +kernel
theorem dX6_turnOn_20 : decode cX6_turnOn 20 = .ok (.ifCond .eq 16, 3) := by decide +kernel
theorem dX6_turnOn_23 : decode cX6_turnOn 23 = .ok (.aload_n 0, 1) := by decide +kernel
theorem dX6_turnOn_24 : decode cX6_turnOn 24 = .ok (.aload_n 0, 1) := by decide +kernel
theorem dX6_turnOn_25 : decode cX6_turnOn 25 = .ok (.iload_n 1, 1) := by decide +kernel
theorem dX6_turnOn_26 : decode cX6_turnOn 26 = .ok (.iload_n 2, 1) := by decide +kernel
theorem dX6_turnOn_27 : decode cX6_turnOn 27 = .ok (.invokevirtual 137, 3) := by decide +kernel
theorem dX6_turnOn_30 : decode cX6_turnOn 30 = .ok (.invokevirtual 134, 3) := by decide +kernel
theorem dX6_turnOn_33 : decode cX6_turnOn 33 = .ok (.goto 5, 3) := by decide +kernel
theorem dX6_turnOn_36 : decode cX6_turnOn 36 = .ok (.bipush (-2), 2) := by decide +kernel
theorem dX6_turnOn_38 : decode cX6_turnOn 38 = .ok (.ireturn, 1) := by decide +kernel
set_option maxRecDepth 20000 in
theorem ggX6_turnOff_X6_looks : GoodIn wsX6_turnOff wsX6_looks := goodIn_r _ [5, 6, 7, 8, 9, 42, 43, 44, 45, 46, 47, 48, 49, 50, 51, 52, 53, 54, 55, 56, 57, 58, 59, 60, 61, 62, 63] (by decide +kernel) (by decide +kernel)
set_option maxRecDepth 20000 in
theorem gX6_turnOff_X6_looks : GoodIn wsX6_turnOff (wsV RX6 122 RX6 yX6_looks wsX6_looks) := goodIn_app (goodIn_of _ (by decide +kernel)) ggX6_turnOff_X6_looks
set_option maxRecDepth 20000 in
theorem ggX6_turnOff_X6_isPair : GoodIn wsX6_turnOff wsX6_isPair := goodIn_r _ [12, 13, 14, 4, 15] (by decide +kernel) (by decide +kernel)
set_option maxRecDepth 20000 in
theorem gX6_turnOff_X6_isPair : GoodIn wsX6_turnOff (va_wsS RX6 119 yX6_isPair wsX6_isPair) := goodIn_app (goodIn_of _ (by decide +kernel)) ggX6_turnOff_X6_isPair
set_option maxRecDepth 20000 in
theorem ggX6_turnOff_X6_turnsOff : GoodIn wsX6_turnOff wsX6_turnsOff := goodIn_r _ [19, 7, 20, 21, 22, 4, 23, 24, 25, 26, 27, 28, 29, 30, 42, 43, 44, 45, 46, 47, 48, 49, 50, 51, 52, 53, 54, 55, 56, 57, 58, 59, 60, 61, 62, 63] (by decide +kernel) (by decide +kernel)
set_option maxRecDepth 20000 in
theorem gX6_turnOff_X6_turnsOff : GoodIn wsX6_turnOff (wsV RX6 140 RX6 yX6_turnsOff wsX6_turnsOff) := goodIn_app (goodIn_of _ (by decide +kernel)) ggX6_turnOff_X6_turnsOff
set_option maxRecDepth 20000 in
theorem ggX6_turnOff_X6_acted : GoodIn wsX6_turnOff wsX6_acted := goodIn_r _ [34, 35, 36, 37, 4, 38, 39, 40, 41, 6, 8, 42, 43, 44, 45, 46, 47, 48, 49, 50, 51, 52, 53, 54, 55, 56, 57, 58, 59, 60, 61, 62, 63] (by decide +kernel) (by decide +kernel)
set_option maxRecDepth 20000 in
theorem gX6_turnOff_X6_acted : GoodIn wsX6_turnOff (wsV RX6 134 RX6 yX6_acted wsX6_acted) := goodIn_app (goodIn_of _ (by decide +kernel)) ggX6_turnOff_X6_acted
theorem dX6_turnOff_0 : decode cX6_turnOff 0 = .ok (.aload_n 0, 1) := by decide +kernel
theorem dX6_turnOff_1 : decode cX6_turnOff 1 = .ok (.invokevirtual 122, 3) := by decide +kernel
theorem dX6_turnOff_4 : decode cX6_turnOff 4 = .ok (.iload_n 1, 1) := by decide +kernel
theorem dX6_turnOff_5 : decode cX6_turnOff 5 = .ok (.invokestatic 119, 3) := by decide +kernel
theorem dX6_turnOff_8 : decode cX6_turnOff 8 = .ok (.ifCond .eq 15, 3) := by decide +kernel
theorem dX6_turnOff_11 : decode cX6_turnOff 11 = .ok (.aload_n 0, 1) := by decide +kernel
theorem dX6_turnOff_12 : decode cX6_turnOff 12 = .ok (.aload_n 0, 1) := by decide +kernel
theorem dX6_turnOff_13 : decode cX6_turnOff 13 = .ok (.iload_n 1, 1) := by decide +kernel
theorem dX6_turnOff_14 : decode cX6_turnOff 14 = .ok (.invokevirtual 140, 3) := by decide +kernel
theorem dX6_turnOff_17 : decode cX6_turnOff 17 = .ok (.invokevirtual 134, 3) := by decide +kernel
theorem dX6_turnOff_20 : decode cX6_turnOff 20 = .ok (.goto 4, 3) := by decide +kernel
theorem dX6_turnOff_23 : decode cX6_turnOff 23 = .ok (.iconst (-1), 1) := by decide +kernel
theorem dX6_turnOff_24 : decode cX6_turnOff 24 = .ok (.ireturn, 1) := by decide +kernel
set_option maxRecDepth 20000 in
theorem ggX6_put_X6_isPair : GoodIn wsX6_put wsX6_isPair := goodIn_r _ [4, 5, 6, 3, 7] (by decide +kernel) (by decide +kernel)
set_option maxRecDepth 20000 in
theorem gX6_put_X6_isPair : GoodIn wsX6_put (va_wsS RX6 119 yX6_isPair wsX6_isPair) := goodIn_app (goodIn_of _ (by decide +kernel)) ggX6_put_X6_isPair
set_option maxRecDepth 20000 in
theorem ggX6_put_X6_looks : GoodIn wsX6_put wsX6_looks := goodIn_r _ [11, 12, 13, 14, 15, 55, 56, 57, 58, 59, 60, 61, 62, 63, 64, 65, 66, 67, 68, 69, 70, 71, 72, 73, 74, 75, 76] (by decide +kernel) (by decide +kernel)
set_option maxRecDepth 20000 in
theorem gX6_put_X6_looks : GoodIn wsX6_put (wsV RX6 122 RX6 yX6_looks wsX6_looks) := goodIn_app (goodIn_of _ (by decide +kernel)) ggX6_put_X6_looks
set_option maxRecDepth 20000 in
theorem ggX6_put_X6_in : GoodIn wsX6_put wsX6_in := goodIn_r _ [7] (by decide +kernel) (by decide +kernel)
set_option maxRecDepth 20000 in
theorem gX6_put_X6_in : GoodIn wsX6_put (va_wsS RX6 49 yX6_in wsX6_in) := goodIn_app (goodIn_of _ (by decide +kernel)) ggX6_put_X6_in
set_option maxRecDepth 20000 in
theorem ggX6_put_X6_lays : GoodIn wsX6_put wsX6_lays := goodIn_r _ [19, 13, 20, 21, 22, 3, 23, 24, 25, 26, 27, 28, 29, 30, 15, 31, 32, 33, 34, 35, 36, 37, 38, 39, 40, 41, 42, 43, 55, 56, 57, 58, 59, 60, 61, 62, 63, 64, 65, 66, 67, 68, 69, 70, 71, 72, 73, 74, 75, 76] (by decide +kernel) (by decide +kernel)
set_option maxRecDepth 20000 in
theorem gX6_put_X6_lays : GoodIn wsX6_put (wsV RX6 131 RX6 yX6_lays wsX6_lays) := goodIn_app (goodIn_of _ (by decide +kernel)) ggX6_put_X6_lays
set_option maxRecDepth 20000 in
theorem ggX6_put_X6_acted : GoodIn wsX6_put wsX6_acted := goodIn_r _ [47, 48, 49, 50, 3, 51, 52, 53, 54, 12, 14, 55, 56, 57, 58, 59, 60, 61, 62, 63, 64, 65, 66, 67, 68, 69, 70, 71, 72, 73, 74, 75, 76] (by decide +kernel) (by decide +kernel)
set_option maxRecDepth 20000 in
theorem gX6_put_X6_acted : GoodIn wsX6_put (wsV RX6 134 RX6 yX6_acted wsX6_acted) := goodIn_app (goodIn_of _ (by decide +kernel)) ggX6_put_X6_acted
theorem dX6_put_0 : decode cX6_put 0 = .ok (.iload_n 1, 1) := by decide +kernel
theorem dX6_put_1 : decode cX6_put 1 = .ok (.invokestatic 119, 3) := by decide +kernel
theorem dX6_put_4 : decode cX6_put 4 = .ok (.ifCond .ne 5, 3) := by decide +kernel
theorem dX6_put_7 : decode cX6_put 7 = .ok (.iconst (-1), 1) := by decide +kernel
theorem dX6_put_8 : decode cX6_put 8 = .ok (.ireturn, 1) := by decide +kernel
theorem dX6_put_9 : decode cX6_put 9 = .ok (.aload_n 0, 1) := by decide +kernel
theorem dX6_put_10 : decode cX6_put 10 = .ok (.invokevirtual 122, 3) := by decide +kernel
theorem dX6_put_13 : decode cX6_put 13 = .ok (.iload_n 2, 1) := by decide +kernel
theorem dX6_put_14 : decode cX6_put 14 = .ok (.iconst 0, 1) := by decide +kernel
theorem dX6_put_15 : decode cX6_put 15 = .ok (.bipush 40, 2) := by decide +kernel
theorem dX6_put_17 : decode cX6_put 17 = .ok (.invokestatic 49, 3) := by decide +kernel
theorem dX6_put_20 : decode cX6_put 20 = .ok (.ifCond .eq 18, 3) := by decide +kernel
theorem dX6_put_23 : decode cX6_put 23 = .ok (.aload_n 0, 1) := by decide +kernel
theorem dX6_put_24 : decode cX6_put 24 = .ok (.aload_n 0, 1) := by decide +kernel
theorem dX6_put_25 : decode cX6_put 25 = .ok (.iload_n 1, 1) := by decide +kernel
theorem dX6_put_26 : decode cX6_put 26 = .ok (.bipush 6, 2) := by decide +kernel
theorem dX6_put_28 : decode cX6_put 28 = .ok (.iload_n 2, 1) := by decide +kernel
theorem dX6_put_29 : decode cX6_put 29 = .ok (.invokevirtual 131, 3) := by decide +kernel
theorem dX6_put_32 : decode cX6_put 32 = .ok (.invokevirtual 134, 3) := by decide +kernel
theorem dX6_put_35 : decode cX6_put 35 = .ok (.goto 5, 3) := by decide +kernel
theorem dX6_put_38 : decode cX6_put 38 = .ok (.bipush (-2), 2) := by decide +kernel
theorem dX6_put_40 : decode cX6_put 40 = .ok (.ireturn, 1) := by decide +kernel
set_option maxRecDepth 20000 in
theorem ggX6_couple_X6_looks : GoodIn wsX6_couple wsX6_looks := goodIn_r _ [5, 6, 7, 8, 9, 59, 60, 61, 62, 63, 64, 65, 66, 67, 68, 69, 70, 71, 72, 73, 74, 75, 76, 77, 78, 79, 80] (by decide +kernel) (by decide +kernel)
set_option maxRecDepth 20000 in
theorem gX6_couple_X6_looks : GoodIn wsX6_couple (wsV RX6 122 RX6 yX6_looks wsX6_looks) := goodIn_app (goodIn_of _ (by decide +kernel)) ggX6_couple_X6_looks
set_option maxRecDepth 20000 in
theorem ggX6_couple_X6_isPair : GoodIn wsX6_couple wsX6_isPair := goodIn_r _ [12, 13, 14, 4, 15] (by decide +kernel) (by decide +kernel)
set_option maxRecDepth 20000 in
theorem gX6_couple_X6_isPair : GoodIn wsX6_couple (va_wsS RX6 119 yX6_isPair wsX6_isPair) := goodIn_app (goodIn_of _ (by decide +kernel)) ggX6_couple_X6_isPair
set_option maxRecDepth 20000 in
theorem ggX6_couple_X6_couples : GoodIn wsX6_couple wsX6_couples := goodIn_r _ [19, 20, 7, 9, 21, 22, 23, 4, 24, 25, 26, 27, 28, 29, 30, 31, 32, 33, 34, 35, 36, 37, 38, 39, 40, 41, 42, 43, 44, 45, 46, 47, 59, 60, 61, 62, 63, 64, 65, 66, 67, 68, 69, 70, 71, 72, 73, 74, 75, 76, 77, 78, 79, 80] (by decide +kernel) (by decide +kernel)
set_option maxRecDepth 20000 in
theorem gX6_couple_X6_couples : GoodIn wsX6_couple (wsV RX6 143 RX6 yX6_couples wsX6_couples) := goodIn_app (goodIn_of _ (by decide +kernel)) ggX6_couple_X6_couples
set_option maxRecDepth 20000 in
theorem ggX6_couple_X6_acted : GoodIn wsX6_couple wsX6_acted := goodIn_r _ [51, 52, 53, 54, 4, 55, 56, 57, 58, 6, 8, 59, 60, 61, 62, 63, 64, 65, 66, 67, 68, 69, 70, 71, 72, 73, 74, 75, 76, 77, 78, 79, 80] (by decide +kernel) (by decide +kernel)
set_option maxRecDepth 20000 in
theorem gX6_couple_X6_acted : GoodIn wsX6_couple (wsV RX6 134 RX6 yX6_acted wsX6_acted) := goodIn_app (goodIn_of _ (by decide +kernel)) ggX6_couple_X6_acted
theorem dX6_couple_0 : decode cX6_couple 0 = .ok (.aload_n 0, 1) := by decide +kernel
theorem dX6_couple_1 : decode cX6_couple 1 = .ok (.invokevirtual 122, 3) := by decide +kernel
theorem dX6_couple_4 : decode cX6_couple 4 = .ok (.iload_n 1, 1) := by decide +kernel
theorem dX6_couple_5 : decode cX6_couple 5 = .ok (.invokestatic 119, 3) := by decide +kernel
theorem dX6_couple_8 : decode cX6_couple 8 = .ok (.ifCond .eq 23, 3) := by decide +kernel
theorem dX6_couple_11 : decode cX6_couple 11 = .ok (.iload_n 2, 1) := by decide +kernel
theorem dX6_couple_12 : decode cX6_couple 12 = .ok (.invokestatic 119, 3) := by decide +kernel
theorem dX6_couple_15 : decode cX6_couple 15 = .ok (.ifCond .eq 16, 3) := by decide +kernel
theorem dX6_couple_18 : decode cX6_couple 18 = .ok (.aload_n 0, 1) := by decide +kernel
theorem dX6_couple_19 : decode cX6_couple 19 = .ok (.aload_n 0, 1) := by decide +kernel
theorem dX6_couple_20 : decode cX6_couple 20 = .ok (.iload_n 1, 1) := by decide +kernel
theorem dX6_couple_21 : decode cX6_couple 21 = .ok (.iload_n 2, 1) := by decide +kernel
theorem dX6_couple_22 : decode cX6_couple 22 = .ok (.invokevirtual 143, 3) := by decide +kernel
theorem dX6_couple_25 : decode cX6_couple 25 = .ok (.invokevirtual 134, 3) := by decide +kernel
theorem dX6_couple_28 : decode cX6_couple 28 = .ok (.goto 4, 3) := by decide +kernel
theorem dX6_couple_31 : decode cX6_couple 31 = .ok (.iconst (-1), 1) := by decide +kernel
theorem dX6_couple_32 : decode cX6_couple 32 = .ok (.ireturn, 1) := by decide +kernel
set_option maxRecDepth 20000 in
theorem ggX6_pass_X6_looks : GoodIn wsX6_pass wsX6_looks := goodIn_r _ [5, 6, 7, 8, 9, 93, 94, 95, 96, 97, 98, 99, 100, 101, 102, 103, 104, 105, 106, 107, 108, 109, 110, 111, 112, 113, 114] (by decide +kernel) (by decide +kernel)
set_option maxRecDepth 20000 in
theorem gX6_pass_X6_looks : GoodIn wsX6_pass (wsV RX6 122 RX6 yX6_looks wsX6_looks) := goodIn_app (goodIn_of _ (by decide +kernel)) ggX6_pass_X6_looks
set_option maxRecDepth 20000 in
theorem ggX6_pass_X6_in : GoodIn wsX6_pass wsX6_in := goodIn_r _ [12] (by decide +kernel) (by decide +kernel)
set_option maxRecDepth 20000 in
theorem gX6_pass_X6_in : GoodIn wsX6_pass (va_wsS RX6 49 yX6_in wsX6_in) := goodIn_app (goodIn_of _ (by decide +kernel)) ggX6_pass_X6_in
set_option maxRecDepth 20000 in
theorem ggX6_pass_X6_passes : GoodIn wsX6_pass wsX6_passes := goodIn_r _ [16, 7, 17, 18, 19, 20, 4, 21, 9, 22, 23, 24, 25, 26, 27, 28, 29, 30, 31, 32, 33, 34, 35, 36, 37, 38, 39, 40, 41, 42, 43, 44, 45, 46, 47, 48, 49, 50, 51, 52, 53, 54, 55, 56, 57, 58, 59, 60, 61, 62, 63, 64, 65, 66, 67, 68, 69, 70, 71, 72, 73, 74, 75, 76, 77, 78, 79, 80, 81, 93, 94, 95, 96, 97, 98, 99, 100, 101, 102, 103, 104, 105, 106, 107, 108, 109, 110, 111, 112, 113, 114] (by decide +kernel) (by decide +kernel)
set_option maxRecDepth 20000 in
theorem gX6_pass_X6_passes : GoodIn wsX6_pass (wsV RX6 146 RX6 yX6_passes wsX6_passes) := goodIn_app (goodIn_of _ (by decide +kernel)) ggX6_pass_X6_passes
set_option maxRecDepth 20000 in
theorem ggX6_pass_X6_acted : GoodIn wsX6_pass wsX6_acted := goodIn_r _ [85, 86, 87, 88, 4, 89, 90, 91, 92, 6, 8, 93, 94, 95, 96, 97, 98, 99, 100, 101, 102, 103, 104, 105, 106, 107, 108, 109, 110, 111, 112, 113, 114] (by decide +kernel) (by decide +kernel)
set_option maxRecDepth 20000 in
theorem gX6_pass_X6_acted : GoodIn wsX6_pass (wsV RX6 134 RX6 yX6_acted wsX6_acted) := goodIn_app (goodIn_of _ (by decide +kernel)) ggX6_pass_X6_acted
theorem dX6_pass_0 : decode cX6_pass 0 = .ok (.aload_n 0, 1) := by decide +kernel
theorem dX6_pass_1 : decode cX6_pass 1 = .ok (.invokevirtual 122, 3) := by decide +kernel
theorem dX6_pass_4 : decode cX6_pass 4 = .ok (.iload_n 1, 1) := by decide +kernel
theorem dX6_pass_5 : decode cX6_pass 5 = .ok (.iconst 1, 1) := by decide +kernel
theorem dX6_pass_6 : decode cX6_pass 6 = .ok (.bipush 99, 2) := by decide +kernel
theorem dX6_pass_8 : decode cX6_pass 8 = .ok (.invokestatic 49, 3) := by decide +kernel
theorem dX6_pass_11 : decode cX6_pass 11 = .ok (.ifCond .eq 15, 3) := by decide +kernel
theorem dX6_pass_14 : decode cX6_pass 14 = .ok (.aload_n 0, 1) := by decide +kernel
theorem dX6_pass_15 : decode cX6_pass 15 = .ok (.aload_n 0, 1) := by decide +kernel
theorem dX6_pass_16 : decode cX6_pass 16 = .ok (.iload_n 1, 1) := by decide +kernel
theorem dX6_pass_17 : decode cX6_pass 17 = .ok (.invokevirtual 146, 3) := by decide +kernel
theorem dX6_pass_20 : decode cX6_pass 20 = .ok (.invokevirtual 134, 3) := by decide +kernel
theorem dX6_pass_23 : decode cX6_pass 23 = .ok (.goto 5, 3) := by decide +kernel
theorem dX6_pass_26 : decode cX6_pass 26 = .ok (.bipush (-2), 2) := by decide +kernel
theorem dX6_pass_28 : decode cX6_pass 28 = .ok (.ireturn, 1) := by decide +kernel
theorem dX6_type_0 : decode cX6_type 0 = .ok (.aload_n 0, 1) := by decide +kernel
theorem dX6_type_1 : decode cX6_type 1 = .ok (.getfield 149, 3) := by decide +kernel
theorem dX6_type_4 : decode cX6_type 4 = .ok (.bipush 60, 2) := by decide +kernel
theorem dX6_type_6 : decode cX6_type 6 = .ok (.if_icmp .ne 6, 3) := by decide +kernel
theorem dX6_type_9 : decode cX6_type 9 = .ok (.bipush (-3), 2) := by decide +kernel
theorem dX6_type_11 : decode cX6_type 11 = .ok (.ireturn, 1) := by decide +kernel
theorem dX6_type_12 : decode cX6_type 12 = .ok (.aload_n 0, 1) := by decide +kernel
theorem dX6_type_13 : decode cX6_type 13 = .ok (.getfield 35, 3) := by decide +kernel
theorem dX6_type_16 : decode cX6_type 16 = .ok (.aload_n 0, 1) := by decide +kernel
theorem dX6_type_17 : decode cX6_type 17 = .ok (.getfield 149, 3) := by decide +kernel
theorem dX6_type_20 : decode cX6_type 20 = .ok (.iload_n 1, 1) := by decide +kernel
theorem dX6_type_21 : decode cX6_type 21 = .ok (.iastore, 1) := by decide +kernel
theorem dX6_type_22 : decode cX6_type 22 = .ok (.aload_n 0, 1) := by decide +kernel
theorem dX6_type_23 : decode cX6_type 23 = .ok (.dup, 1) := by decide +kernel
theorem dX6_type_24 : decode cX6_type 24 = .ok (.getfield 149, 3) := by decide +kernel
theorem dX6_type_27 : decode cX6_type 27 = .ok (.iconst 1, 1) := by decide +kernel
theorem dX6_type_28 : decode cX6_type 28 = .ok (.iadd, 1) := by decide +kernel
theorem dX6_type_29 : decode cX6_type 29 = .ok (.putfield 149, 3) := by decide +kernel
theorem dX6_type_32 : decode cX6_type 32 = .ok (.aload_n 0, 1) := by decide +kernel
theorem dX6_type_33 : decode cX6_type 33 = .ok (.getfield 149, 3) := by decide +kernel
theorem dX6_type_36 : decode cX6_type 36 = .ok (.ireturn, 1) := by decide +kernel
theorem dX6_clearText_0 : decode cX6_clearText 0 = .ok (.aload_n 0, 1) := by decide +kernel
theorem dX6_clearText_1 : decode cX6_clearText 1 = .ok (.getfield 149, 3) := by decide +kernel
theorem dX6_clearText_4 : decode cX6_clearText 4 = .ok (.istore_n 1, 1) := by decide +kernel
theorem dX6_clearText_5 : decode cX6_clearText 5 = .ok (.aload_n 0, 1) := by decide +kernel
theorem dX6_clearText_6 : decode cX6_clearText 6 = .ok (.iconst 0, 1) := by decide +kernel
theorem dX6_clearText_7 : decode cX6_clearText 7 = .ok (.putfield 149, 3) := by decide +kernel
theorem dX6_clearText_10 : decode cX6_clearText 10 = .ok (.iload_n 1, 1) := by decide +kernel
theorem dX6_clearText_11 : decode cX6_clearText 11 = .ok (.ireturn, 1) := by decide +kernel
set_option maxRecDepth 20000 in
theorem ggX6_isNext_X6_in : GoodIn wsX6_isNext wsX6_in := goodIn_r _ [8] (by decide +kernel) (by decide +kernel)
set_option maxRecDepth 20000 in
theorem gX6_isNext_X6_in : GoodIn wsX6_isNext (va_wsS RX6 49 yX6_in wsX6_in) := goodIn_app (goodIn_of _ (by decide +kernel)) ggX6_isNext_X6_in
theorem dX6_isNext_0 : decode cX6_isNext 0 = .ok (.aload_n 0, 1) := by decide +kernel
theorem dX6_isNext_1 : decode cX6_isNext 1 = .ok (.getfield 152, 3) := by decide +kernel
theorem dX6_isNext_4 : decode cX6_isNext 4 = .ok (.ifCond .ne 35, 3) := by decide +kernel
theorem dX6_isNext_7 : decode cX6_isNext 7 = .ok (.aload_n 0, 1) := by decide +kernel
theorem dX6_isNext_8 : decode cX6_isNext 8 = .ok (.getfield 156, 3) := by decide +kernel
theorem dX6_isNext_11 : decode cX6_isNext 11 = .ok (.aload_n 0, 1) := by decide +kernel
theorem dX6_isNext_12 : decode cX6_isNext 12 = .ok (.getfield 149, 3) := by decide +kernel
theorem dX6_isNext_15 : decode cX6_isNext 15 = .ok (.if_icmp .ge 24, 3) := by decide +kernel
theorem dX6_isNext_18 : decode cX6_isNext 18 = .ok (.aload_n 0, 1) := by decide +kernel
theorem dX6_isNext_19 : decode cX6_isNext 19 = .ok (.getfield 35, 3) := by decide +kernel
theorem dX6_isNext_22 : decode cX6_isNext 22 = .ok (.aload_n 0, 1) := by decide +kernel
theorem dX6_isNext_23 : decode cX6_isNext 23 = .ok (.getfield 156, 3) := by decide +kernel
theorem dX6_isNext_26 : decode cX6_isNext 26 = .ok (.iaload, 1) := by decide +kernel
theorem dX6_isNext_27 : decode cX6_isNext 27 = .ok (.iload_n 1, 1) := by decide +kernel
theorem dX6_isNext_28 : decode cX6_isNext 28 = .ok (.iload_n 2, 1) := by decide +kernel
theorem dX6_isNext_29 : decode cX6_isNext 29 = .ok (.invokestatic 49, 3) := by decide +kernel
theorem dX6_isNext_32 : decode cX6_isNext 32 = .ok (.ifCond .eq 7, 3) := by decide +kernel
theorem dX6_isNext_35 : decode cX6_isNext 35 = .ok (.iconst 1, 1) := by decide +kernel
theorem dX6_isNext_36 : decode cX6_isNext 36 = .ok (.goto 4, 3) := by decide +kernel
theorem dX6_isNext_39 : decode cX6_isNext 39 = .ok (.iconst 0, 1) := by decide +kernel
theorem dX6_isNext_40 : decode cX6_isNext 40 = .ok (.ireturn, 1) := by decide +kernel
set_option maxRecDepth 20000 in
theorem ggX6_takes_X6_in : GoodIn wsX6_takes wsX6_in := goodIn_r _ [8] (by decide +kernel) (by decide +kernel)
set_option maxRecDepth 20000 in
theorem gX6_takes_X6_in : GoodIn wsX6_takes (va_wsS RX6 49 yX6_in wsX6_in) := goodIn_app (goodIn_of _ (by decide +kernel)) ggX6_takes_X6_in
theorem dX6_takes_0 : decode cX6_takes 0 = .ok (.aload_n 0, 1) := by decide +kernel
theorem dX6_takes_1 : decode cX6_takes 1 = .ok (.getfield 156, 3) := by decide +kernel
theorem dX6_takes_4 : decode cX6_takes 4 = .ok (.aload_n 0, 1) := by decide +kernel
theorem dX6_takes_5 : decode cX6_takes 5 = .ok (.getfield 149, 3) := by decide +kernel
theorem dX6_takes_8 : decode cX6_takes 8 = .ok (.if_icmp .ge 15, 3) := by decide +kernel
theorem dX6_takes_11 : decode cX6_takes 11 = .ok (.aload_n 0, 1) := by decide +kernel
theorem dX6_takes_12 : decode cX6_takes 12 = .ok (.getfield 35, 3) := by decide +kernel
theorem dX6_takes_15 : decode cX6_takes 15 = .ok (.aload_n 0, 1) := by decide +kernel
theorem dX6_takes_16 : decode cX6_takes 16 = .ok (.getfield 156, 3) := by decide +kernel
theorem dX6_takes_19 : decode cX6_takes 19 = .ok (.iaload, 1) := by decide +kernel
theorem dX6_takes_20 : decode cX6_takes 20 = .ok (.goto 4, 3) := by decide +kernel
theorem dX6_takes_23 : decode cX6_takes 23 = .ok (.iconst 0, 1) := by decide +kernel
theorem dX6_takes_24 : decode cX6_takes 24 = .ok (.istore_n 3, 1) := by decide +kernel
theorem dX6_takes_25 : decode cX6_takes 25 = .ok (.aload_n 0, 1) := by decide +kernel
theorem dX6_takes_26 : decode cX6_takes 26 = .ok (.aload_n 0, 1) := by decide +kernel
theorem dX6_takes_27 : decode cX6_takes 27 = .ok (.getfield 152, 3) := by decide +kernel
theorem dX6_takes_30 : decode cX6_takes 30 = .ok (.ifCond .ne 12, 3) := by decide +kernel
theorem dX6_takes_33 : decode cX6_takes 33 = .ok (.iload_n 3, 1) := by decide +kernel
theorem dX6_takes_34 : decode cX6_takes 34 = .ok (.iload_n 1, 1) := by decide +kernel
theorem dX6_takes_35 : decode cX6_takes 35 = .ok (.iload_n 2, 1) := by decide +kernel
theorem dX6_takes_36 : decode cX6_takes 36 = .ok (.invokestatic 49, 3) := by decide +kernel
theorem dX6_takes_39 : decode cX6_takes 39 = .ok (.ifCond .ne 7, 3) := by decide +kernel
theorem dX6_takes_42 : decode cX6_takes 42 = .ok (.iconst 1, 1) := by decide +kernel
theorem dX6_takes_43 : decode cX6_takes 43 = .ok (.goto 4, 3) := by decide +kernel
theorem dX6_takes_46 : decode cX6_takes 46 = .ok (.iconst 0, 1) := by decide +kernel
theorem dX6_takes_47 : decode cX6_takes 47 = .ok (.putfield 152, 3) := by decide +kernel
theorem dX6_takes_50 : decode cX6_takes 50 = .ok (.aload_n 0, 1) := by decide +kernel
theorem dX6_takes_51 : decode cX6_takes 51 = .ok (.dup, 1) := by decide +kernel
theorem dX6_takes_52 : decode cX6_takes 52 = .ok (.getfield 156, 3) := by decide +kernel
theorem dX6_takes_55 : decode cX6_takes 55 = .ok (.aload_n 0, 1) := by decide +kernel
theorem dX6_takes_56 : decode cX6_takes 56 = .ok (.getfield 152, 3) := by decide +kernel
theorem dX6_takes_59 : decode cX6_takes 59 = .ok (.ifCond .eq 7, 3) := by decide +kernel
theorem dX6_takes_62 : decode cX6_takes 62 = .ok (.iconst 0, 1) := by decide +kernel
theorem dX6_takes_63 : decode cX6_takes 63 = .ok (.goto 4, 3) := by decide +kernel
theorem dX6_takes_66 : decode cX6_takes 66 = .ok (.iconst 1, 1) := by decide +kernel
theorem dX6_takes_67 : decode cX6_takes 67 = .ok (.iadd, 1) := by decide +kernel
theorem dX6_takes_68 : decode cX6_takes 68 = .ok (.putfield 156, 3) := by decide +kernel
theorem dX6_takes_71 : decode cX6_takes 71 = .ok (.iload_n 3, 1) := by decide +kernel
theorem dX6_takes_72 : decode cX6_takes 72 = .ok (.iload_n 1, 1) := by decide +kernel
theorem dX6_takes_73 : decode cX6_takes 73 = .ok (.isub, 1) := by decide +kernel
theorem dX6_takes_74 : decode cX6_takes 74 = .ok (.ireturn, 1) := by decide +kernel
set_option maxRecDepth 20000 in
theorem ggX6_takesNumber_X6_takes : GoodIn wsX6_takesNumber wsX6_takes := goodIn_r _ [7, 2, 8, 1, 9, 10, 11, 6, 12, 17, 18, 19, 20, 21, 22, 23, 24, 25, 26, 27, 28, 29, 30, 31, 32, 33, 34, 35, 36, 37, 38] (by decide +kernel) (by decide +kernel)
set_option maxRecDepth 20000 in
theorem gX6_takesNumber_X6_takes : GoodIn wsX6_takesNumber (wsV RX6 159 RX6 yX6_takes wsX6_takes) := goodIn_app (goodIn_of _ (by decide +kernel)) ggX6_takesNumber_X6_takes
set_option maxRecDepth 20000 in
theorem ggX6_takesNumber_X6_isNext : GoodIn wsX6_takesNumber wsX6_isNext := goodIn_r _ [16, 9, 2, 8, 1, 10, 11, 6, 12, 17, 18, 19, 20, 21, 22, 23, 24, 25, 26, 27, 28, 29, 30, 31, 32, 33, 34, 35, 36, 37, 38] (by decide +kernel) (by decide +kernel)
set_option maxRecDepth 20000 in
theorem gX6_takesNumber_X6_isNext : GoodIn wsX6_takesNumber (wsV RX6 162 RX6 yX6_isNext wsX6_isNext) := goodIn_app (goodIn_of _ (by decide +kernel)) ggX6_takesNumber_X6_isNext
theorem dX6_takesNumber_0 : decode cX6_takesNumber 0 = .ok (.iload_n 1, 1) := by decide +kernel
theorem dX6_takesNumber_1 : decode cX6_takesNumber 1 = .ok (.aload_n 0, 1) := by decide +kernel
theorem dX6_takesNumber_2 : decode cX6_takesNumber 2 = .ok (.bipush 48, 2) := by decide +kernel
theorem dX6_takesNumber_4 : decode cX6_takesNumber 4 = .ok (.iload_n 1, 1) := by decide +kernel
theorem dX6_takesNumber_5 : decode cX6_takesNumber 5 = .ok (.iadd, 1) := by decide +kernel
theorem dX6_takesNumber_6 : decode cX6_takesNumber 6 = .ok (.bipush 57, 2) := by decide +kernel
theorem dX6_takesNumber_8 : decode cX6_takesNumber 8 = .ok (.invokevirtual 159, 3) := by decide +kernel
theorem dX6_takesNumber_11 : decode cX6_takesNumber 11 = .ok (.iadd, 1) := by decide +kernel
theorem dX6_takesNumber_12 : decode cX6_takesNumber 12 = .ok (.istore_n 3, 1) := by decide +kernel
theorem dX6_takesNumber_13 : decode cX6_takesNumber 13 = .ok (.iload_n 3, 1) := by decide +kernel
theorem dX6_takesNumber_14 : decode cX6_takesNumber 14 = .ok (.ifCond .le 7, 3) := by decide +kernel
theorem dX6_takesNumber_17 : decode cX6_takesNumber 17 = .ok (.iconst 1, 1) := by decide +kernel
theorem dX6_takesNumber_18 : decode cX6_takesNumber 18 = .ok (.goto 4, 3) := by decide +kernel
theorem dX6_takesNumber_21 : decode cX6_takesNumber 21 = .ok (.iconst 0, 1) := by decide +kernel
theorem dX6_takesNumber_22 : decode cX6_takesNumber 22 = .ok (.istore 4, 2) := by decide +kernel
theorem dX6_takesNumber_24 : decode cX6_takesNumber 24 = .ok (.iload 4, 2) := by decide +kernel
theorem dX6_takesNumber_26 : decode cX6_takesNumber 26 = .ok (.ifCond .eq 68, 3) := by decide +kernel
theorem dX6_takesNumber_29 : decode cX6_takesNumber 29 = .ok (.aload_n 0, 1) := by decide +kernel
theorem dX6_takesNumber_30 : decode cX6_takesNumber 30 = .ok (.bipush 48, 2) := by decide +kernel
theorem dX6_takesNumber_32 : decode cX6_takesNumber 32 = .ok (.bipush 57, 2) := by decide +kernel
theorem dX6_takesNumber_34 : decode cX6_takesNumber 34 = .ok (.invokevirtual 162, 3) := by decide +kernel
theorem dX6_takesNumber_37 : decode cX6_takesNumber 37 = .ok (.ifCond .eq 28, 3) := by decide +kernel
theorem dX6_takesNumber_40 : decode cX6_takesNumber 40 = .ok (.bipush 10, 2) := by decide +kernel
theorem dX6_takesNumber_42 : decode cX6_takesNumber 42 = .ok (.iload_n 3, 1) := by decide +kernel
theorem dX6_takesNumber_43 : decode cX6_takesNumber 43 = .ok (.imul, 1) := by decide +kernel
theorem dX6_takesNumber_44 : decode cX6_takesNumber 44 = .ok (.aload_n 0, 1) := by decide +kernel
theorem dX6_takesNumber_45 : decode cX6_takesNumber 45 = .ok (.getfield 35, 3) := by decide +kernel
theorem dX6_takesNumber_48 : decode cX6_takesNumber 48 = .ok (.aload_n 0, 1) := by decide +kernel
theorem dX6_takesNumber_49 : decode cX6_takesNumber 49 = .ok (.getfield 156, 3) := by decide +kernel
theorem dX6_takesNumber_52 : decode cX6_takesNumber 52 = .ok (.iaload, 1) := by decide +kernel
theorem dX6_takesNumber_53 : decode cX6_takesNumber 53 = .ok (.iadd, 1) := by decide +kernel
theorem dX6_takesNumber_54 : decode cX6_takesNumber 54 = .ok (.bipush 48, 2) := by decide +kernel
theorem dX6_takesNumber_56 : decode cX6_takesNumber 56 = .ok (.isub, 1) := by decide +kernel
theorem dX6_takesNumber_57 : decode cX6_takesNumber 57 = .ok (.iload_n 2, 1) := by decide +kernel
theorem dX6_takesNumber_58 : decode cX6_takesNumber 58 = .ok (.if_icmp .gt 7, 3) := by decide +kernel
theorem dX6_takesNumber_61 : decode cX6_takesNumber 61 = .ok (.iconst 1, 1) := by decide +kernel
theorem dX6_takesNumber_62 : decode cX6_takesNumber 62 = .ok (.goto 4, 3) := by decide +kernel
theorem dX6_takesNumber_65 : decode cX6_takesNumber 65 = .ok (.iconst 0, 1) := by decide +kernel
theorem dX6_takesNumber_66 : decode cX6_takesNumber 66 = .ok (.istore 4, 2) := by decide +kernel
theorem dX6_takesNumber_68 : decode cX6_takesNumber 68 = .ok (.iload 4, 2) := by decide +kernel
theorem dX6_takesNumber_70 : decode cX6_takesNumber 70 = .ok (.ifCond .eq 19, 3) := by decide +kernel
theorem dX6_takesNumber_73 : decode cX6_takesNumber 73 = .ok (.bipush 10, 2) := by decide +kernel
theorem dX6_takesNumber_75 : decode cX6_takesNumber 75 = .ok (.iload_n 3, 1) := by decide +kernel
theorem dX6_takesNumber_76 : decode cX6_takesNumber 76 = .ok (.imul, 1) := by decide +kernel
theorem dX6_takesNumber_77 : decode cX6_takesNumber 77 = .ok (.aload_n 0, 1) := by decide +kernel
theorem dX6_takesNumber_78 : decode cX6_takesNumber 78 = .ok (.bipush 48, 2) := by decide +kernel
theorem dX6_takesNumber_80 : decode cX6_takesNumber 80 = .ok (.bipush 57, 2) := by decide +kernel
theorem dX6_takesNumber_82 : decode cX6_takesNumber 82 = .ok (.invokevirtual 159, 3) := by decide +kernel
theorem dX6_takesNumber_85 : decode cX6_takesNumber 85 = .ok (.iadd, 1) := by decide +kernel
theorem dX6_takesNumber_86 : decode cX6_takesNumber 86 = .ok (.goto 4, 3) := by decide +kernel
theorem dX6_takesNumber_89 : decode cX6_takesNumber 89 = .ok (.iload_n 3, 1) := by decide +kernel
theorem dX6_takesNumber_90 : decode cX6_takesNumber 90 = .ok (.istore_n 3, 1) := by decide +kernel
theorem dX6_takesNumber_91 : decode cX6_takesNumber 91 = .ok (.goto (-67), 3) := by decide +kernel
theorem dX6_takesNumber_94 : decode cX6_takesNumber 94 = .ok (.iload_n 3, 1) := by decide +kernel
theorem dX6_takesNumber_95 : decode cX6_takesNumber 95 = .ok (.ireturn, 1) := by decide +kernel
set_option maxRecDepth 20000 in
theorem ggX6_readThing_X6_takesNumber : GoodIn wsX6_readThing wsX6_takesNumber := goodIn_r _ [12, 3, 1, 13, 14, 15, 11, 16, 2, 5, 17, 18, 19, 20, 21, 22, 23, 24, 25, 26, 27, 28, 29, 30, 31, 32, 33, 34, 35, 36, 37, 38, 39, 40, 41, 42, 43, 44, 45] (by decide +kernel) (by decide +kernel)
set_option maxRecDepth 20000 in
theorem gX6_readThing_X6_takesNumber : GoodIn wsX6_readThing (wsV RX6 169 RX6 yX6_takesNumber wsX6_takesNumber) := goodIn_app (goodIn_of _ (by decide +kernel)) ggX6_readThing_X6_takesNumber
set_option maxRecDepth 20000 in
theorem ggX6_readThing_X6_takes : GoodIn wsX6_readThing wsX6_takes := goodIn_r _ [16, 1, 2, 3, 5, 17, 18, 11, 19, 24, 25, 26, 27, 28, 29, 30, 31, 32, 33, 34, 35, 36, 37, 38, 39, 40, 41, 42, 43, 44, 45] (by decide +kernel) (by decide +kernel)
set_option maxRecDepth 20000 in
theorem gX6_readThing_X6_takes : GoodIn wsX6_readThing (wsV RX6 159 RX6 yX6_takes wsX6_takes) := goodIn_app (goodIn_of _ (by decide +kernel)) ggX6_readThing_X6_takes
theorem dX6_readThing_0 : decode cX6_readThing 0 = .ok (.aload_n 0, 1) := by decide +kernel
theorem dX6_readThing_1 : decode cX6_readThing 1 = .ok (.aload_n 0, 1) := by decide +kernel
theorem dX6_readThing_2 : decode cX6_readThing 2 = .ok (.getfield 156, 3) := by decide +kernel
theorem dX6_readThing_5 : decode cX6_readThing 5 = .ok (.aload_n 0, 1) := by decide +kernel
theorem dX6_readThing_6 : decode cX6_readThing 6 = .ok (.getfield 149, 3) := by decide +kernel
theorem dX6_readThing_9 : decode cX6_readThing 9 = .ok (.if_icmp .ge 15, 3) := by decide +kernel
theorem dX6_readThing_12 : decode cX6_readThing 12 = .ok (.aload_n 0, 1) := by decide +kernel
theorem dX6_readThing_13 : decode cX6_readThing 13 = .ok (.getfield 35, 3) := by decide +kernel
theorem dX6_readThing_16 : decode cX6_readThing 16 = .ok (.aload_n 0, 1) := by decide +kernel
theorem dX6_readThing_17 : decode cX6_readThing 17 = .ok (.getfield 156, 3) := by decide +kernel
theorem dX6_readThing_20 : decode cX6_readThing 20 = .ok (.iaload, 1) := by decide +kernel
theorem dX6_readThing_21 : decode cX6_readThing 21 = .ok (.goto 4, 3) := by decide +kernel
theorem dX6_readThing_24 : decode cX6_readThing 24 = .ok (.iconst 0, 1) := by decide +kernel
theorem dX6_readThing_25 : decode cX6_readThing 25 = .ok (.putfield 166, 3) := by decide +kernel
theorem dX6_readThing_28 : decode cX6_readThing 28 = .ok (.aload_n 0, 1) := by decide +kernel
theorem dX6_readThing_29 : decode cX6_readThing 29 = .ok (.aload_n 0, 1) := by decide +kernel
theorem dX6_readThing_30 : decode cX6_readThing 30 = .ok (.getfield 152, 3) := by decide +kernel
theorem dX6_readThing_33 : decode cX6_readThing 33 = .ok (.ifCond .ne 48, 3) := by decide +kernel
theorem dX6_readThing_36 : decode cX6_readThing 36 = .ok (.aload_n 0, 1) := by decide +kernel
theorem dX6_readThing_37 : decode cX6_readThing 37 = .ok (.getfield 166, 3) := by decide +kernel
theorem dX6_readThing_40 : decode cX6_readThing 40 = .ok (.bipush 98, 2) := by decide +kernel
theorem dX6_readThing_42 : decode cX6_readThing 42 = .ok (.if_icmp .eq 43, 3) := by decide +kernel
theorem dX6_readThing_45 : decode cX6_readThing 45 = .ok (.aload_n 0, 1) := by decide +kernel
theorem dX6_readThing_46 : decode cX6_readThing 46 = .ok (.getfield 166, 3) := by decide +kernel
theorem dX6_readThing_49 : decode cX6_readThing 49 = .ok (.bipush 111, 2) := by decide +kernel
theorem dX6_readThing_51 : decode cX6_readThing 51 = .ok (.if_icmp .eq 34, 3) := by decide +kernel
theorem dX6_readThing_54 : decode cX6_readThing 54 = .ok (.aload_n 0, 1) := by decide +kernel
theorem dX6_readThing_55 : decode cX6_readThing 55 = .ok (.getfield 166, 3) := by decide +kernel
theorem dX6_readThing_58 : decode cX6_readThing 58 = .ok (.bipush 100, 2) := by decide +kernel
theorem dX6_readThing_60 : decode cX6_readThing 60 = .ok (.if_icmp .eq 25, 3) := by decide +kernel
theorem dX6_readThing_63 : decode cX6_readThing 63 = .ok (.aload_n 0, 1) := by decide +kernel
theorem dX6_readThing_64 : decode cX6_readThing 64 = .ok (.getfield 166, 3) := by decide +kernel
theorem dX6_readThing_67 : decode cX6_readThing 67 = .ok (.bipush 99, 2) := by decide +kernel
theorem dX6_readThing_69 : decode cX6_readThing 69 = .ok (.if_icmp .eq 16, 3) := by decide +kernel
theorem dX6_readThing_72 : decode cX6_readThing 72 = .ok (.aload_n 0, 1) := by decide +kernel
theorem dX6_readThing_73 : decode cX6_readThing 73 = .ok (.getfield 166, 3) := by decide +kernel
theorem dX6_readThing_76 : decode cX6_readThing 76 = .ok (.bipush 46, 2) := by decide +kernel
theorem dX6_readThing_78 : decode cX6_readThing 78 = .ok (.if_icmp .eq 7, 3) := by decide +kernel
theorem dX6_readThing_81 : decode cX6_readThing 81 = .ok (.iconst 1, 1) := by decide +kernel
theorem dX6_readThing_82 : decode cX6_readThing 82 = .ok (.goto 4, 3) := by decide +kernel
theorem dX6_readThing_85 : decode cX6_readThing 85 = .ok (.iconst 0, 1) := by decide +kernel
theorem dX6_readThing_86 : decode cX6_readThing 86 = .ok (.putfield 152, 3) := by decide +kernel
theorem dX6_readThing_89 : decode cX6_readThing 89 = .ok (.aload_n 0, 1) := by decide +kernel
theorem dX6_readThing_90 : decode cX6_readThing 90 = .ok (.dup, 1) := by decide +kernel
theorem dX6_readThing_91 : decode cX6_readThing 91 = .ok (.getfield 156, 3) := by decide +kernel
theorem dX6_readThing_94 : decode cX6_readThing 94 = .ok (.aload_n 0, 1) := by decide +kernel
theorem dX6_readThing_95 : decode cX6_readThing 95 = .ok (.getfield 152, 3) := by decide +kernel
theorem dX6_readThing_98 : decode cX6_readThing 98 = .ok (.ifCond .eq 7, 3) := by decide +kernel
theorem dX6_readThing_101 : decode cX6_readThing 101 = .ok (.iconst 0, 1) := by decide +kernel
theorem dX6_readThing_102 : decode cX6_readThing 102 = .ok (.goto 4, 3) := by decide +kernel
theorem dX6_readThing_105 : decode cX6_readThing 105 = .ok (.iconst 1, 1) := by decide +kernel
theorem dX6_readThing_106 : decode cX6_readThing 106 = .ok (.iadd, 1) := by decide +kernel
theorem dX6_readThing_107 : decode cX6_readThing 107 = .ok (.putfield 156, 3) := by decide +kernel
theorem dX6_readThing_110 : decode cX6_readThing 110 = .ok (.aload_n 0, 1) := by decide +kernel
theorem dX6_readThing_111 : decode cX6_readThing 111 = .ok (.aload_n 0, 1) := by decide +kernel
theorem dX6_readThing_112 : decode cX6_readThing 112 = .ok (.getfield 166, 3) := by decide +kernel
theorem dX6_readThing_115 : decode cX6_readThing 115 = .ok (.bipush 46, 2) := by decide +kernel
theorem dX6_readThing_117 : decode cX6_readThing 117 = .ok (.if_icmp .ne 13, 3) := by decide +kernel
theorem dX6_readThing_120 : decode cX6_readThing 120 = .ok (.aload_n 0, 1) := by decide +kernel
theorem dX6_readThing_121 : decode cX6_readThing 121 = .ok (.iconst 1, 1) := by decide +kernel
theorem dX6_readThing_122 : decode cX6_readThing 122 = .ok (.bipush 99, 2) := by decide +kernel
theorem dX6_readThing_124 : decode cX6_readThing 124 = .ok (.invokevirtual 169, 3) := by decide +kernel
theorem dX6_readThing_127 : decode cX6_readThing 127 = .ok (.goto 11, 3) := by decide +kernel
theorem dX6_readThing_130 : decode cX6_readThing 130 = .ok (.aload_n 0, 1) := by decide +kernel
theorem dX6_readThing_131 : decode cX6_readThing 131 = .ok (.bipush 48, 2) := by decide +kernel
theorem dX6_readThing_133 : decode cX6_readThing 133 = .ok (.bipush 51, 2) := by decide +kernel
theorem dX6_readThing_135 : decode cX6_readThing 135 = .ok (.invokevirtual 159, 3) := by decide +kernel
theorem dX6_readThing_138 : decode cX6_readThing 138 = .ok (.putfield 172, 3) := by decide +kernel
theorem dX6_readThing_141 : decode cX6_readThing 141 = .ok (.aload_n 0, 1) := by decide +kernel
theorem dX6_readThing_142 : decode cX6_readThing 142 = .ok (.iconst 0, 1) := by decide +kernel
theorem dX6_readThing_143 : decode cX6_readThing 143 = .ok (.putfield 175, 3) := by decide +kernel
theorem dX6_readThing_146 : decode cX6_readThing 146 = .ok (.aload_n 0, 1) := by decide +kernel
theorem dX6_readThing_147 : decode cX6_readThing 147 = .ok (.getfield 166, 3) := by decide +kernel
theorem dX6_readThing_150 : decode cX6_readThing 150 = .ok (.bipush 98, 2) := by decide +kernel
theorem dX6_readThing_152 : decode cX6_readThing 152 = .ok (.if_icmp .eq 12, 3) := by decide +kernel
theorem dX6_readThing_155 : decode cX6_readThing 155 = .ok (.aload_n 0, 1) := by decide +kernel
theorem dX6_readThing_156 : decode cX6_readThing 156 = .ok (.getfield 166, 3) := by decide +kernel
theorem dX6_readThing_159 : decode cX6_readThing 159 = .ok (.bipush 100, 2) := by decide +kernel
theorem dX6_readThing_161 : decode cX6_readThing 161 = .ok (.if_icmp .ne 40, 3) := by decide +kernel
theorem dX6_readThing_164 : decode cX6_readThing 164 = .ok (.aload_n 0, 1) := by decide +kernel
theorem dX6_readThing_165 : decode cX6_readThing 165 = .ok (.bipush 61, 2) := by decide +kernel
theorem dX6_readThing_167 : decode cX6_readThing 167 = .ok (.bipush 61, 2) := by decide +kernel
theorem dX6_readThing_169 : decode cX6_readThing 169 = .ok (.invokevirtual 159, 3) := by decide +kernel
theorem dX6_readThing_172 : decode cX6_readThing 172 = .ok (.istore_n 1, 1) := by decide +kernel
theorem dX6_readThing_173 : decode cX6_readThing 173 = .ok (.aload_n 0, 1) := by decide +kernel
theorem dX6_readThing_174 : decode cX6_readThing 174 = .ok (.aload_n 0, 1) := by decide +kernel
theorem dX6_readThing_175 : decode cX6_readThing 175 = .ok (.iconst 0, 1) := by decide +kernel
theorem dX6_readThing_176 : decode cX6_readThing 176 = .ok (.aload_n 0, 1) := by decide +kernel
theorem dX6_readThing_177 : decode cX6_readThing 177 = .ok (.getfield 166, 3) := by decide +kernel
theorem dX6_readThing_180 : decode cX6_readThing 180 = .ok (.bipush 98, 2) := by decide +kernel
theorem dX6_readThing_182 : decode cX6_readThing 182 = .ok (.if_icmp .ne 8, 3) := by decide +kernel
theorem dX6_readThing_185 : decode cX6_readThing 185 = .ok (.bipush 30, 2) := by decide +kernel
theorem dX6_readThing_187 : decode cX6_readThing 187 = .ok (.goto 5, 3) := by decide +kernel
theorem dX6_readThing_190 : decode cX6_readThing 190 = .ok (.bipush 40, 2) := by decide +kernel
theorem dX6_readThing_192 : decode cX6_readThing 192 = .ok (.invokevirtual 169, 3) := by decide +kernel
theorem dX6_readThing_195 : decode cX6_readThing 195 = .ok (.putfield 175, 3) := by decide +kernel
theorem dX6_readThing_198 : decode cX6_readThing 198 = .ok (.goto 24, 3) := by decide +kernel
theorem dX6_readThing_201 : decode cX6_readThing 201 = .ok (.aload_n 0, 1) := by decide +kernel
theorem dX6_readThing_202 : decode cX6_readThing 202 = .ok (.getfield 166, 3) := by decide +kernel
theorem dX6_readThing_205 : decode cX6_readThing 205 = .ok (.bipush 99, 2) := by decide +kernel
theorem dX6_readThing_207 : decode cX6_readThing 207 = .ok (.if_icmp .ne 15, 3) := by decide +kernel
theorem dX6_readThing_210 : decode cX6_readThing 210 = .ok (.aload_n 0, 1) := by decide +kernel
theorem dX6_readThing_211 : decode cX6_readThing 211 = .ok (.aload_n 0, 1) := by decide +kernel
theorem dX6_readThing_212 : decode cX6_readThing 212 = .ok (.bipush 48, 2) := by decide +kernel
theorem dX6_readThing_214 : decode cX6_readThing 214 = .ok (.bipush 51, 2) := by decide +kernel
theorem dX6_readThing_216 : decode cX6_readThing 216 = .ok (.invokevirtual 159, 3) := by decide +kernel
theorem dX6_readThing_219 : decode cX6_readThing 219 = .ok (.putfield 175, 3) := by decide +kernel
theorem dX6_readThing_222 : decode cX6_readThing 222 = .ok (.return_, 1) := by decide +kernel
set_option maxRecDepth 20000 in
theorem ggX6_does_X6_turnsOn : GoodIn wsX6_does wsX6_turnsOn := goodIn_r _ [8, 9, 10, 11, 12, 7, 13, 14, 15, 16, 17, 18, 19, 20, 21, 22, 23, 24, 25, 26, 27, 28, 29, 30, 31, 32, 33, 34, 96, 97, 98, 99, 100, 101, 102, 103, 104, 105, 106, 107, 108, 109, 110, 111, 112, 113, 114, 115, 116, 117] (by decide +kernel) (by decide +kernel)
set_option maxRecDepth 20000 in
theorem gX6_does_X6_turnsOn : GoodIn wsX6_does (wsV RX6 137 RX6 yX6_turnsOn wsX6_turnsOn) := goodIn_app (goodIn_of _ (by decide +kernel)) ggX6_does_X6_turnsOn
set_option maxRecDepth 20000 in
theorem ggX6_does_X6_turnsOff : GoodIn wsX6_does wsX6_turnsOff := goodIn_r _ [38, 9, 10, 11, 12, 7, 13, 14, 15, 16, 17, 18, 19, 20, 96, 97, 98, 99, 100, 101, 102, 103, 104, 105, 106, 107, 108, 109, 110, 111, 112, 113, 114, 115, 116, 117] (by decide +kernel) (by decide +kernel)
set_option maxRecDepth 20000 in
theorem gX6_does_X6_turnsOff : GoodIn wsX6_does (wsV RX6 140 RX6 yX6_turnsOff wsX6_turnsOff) := goodIn_app (goodIn_of _ (by decide +kernel)) ggX6_does_X6_turnsOff
set_option maxRecDepth 20000 in
theorem ggX6_does_X6_lays : GoodIn wsX6_does wsX6_lays := goodIn_r _ [42, 9, 14, 15, 16, 7, 17, 18, 19, 20, 21, 22, 23, 24, 25, 26, 10, 11, 12, 13, 27, 28, 29, 30, 31, 32, 33, 34, 96, 97, 98, 99, 100, 101, 102, 103, 104, 105, 106, 107, 108, 109, 110, 111, 112, 113, 114, 115, 116, 117] (by decide +kernel) (by decide +kernel)
set_option maxRecDepth 20000 in
theorem gX6_does_X6_lays : GoodIn wsX6_does (wsV RX6 131 RX6 yX6_lays wsX6_lays) := goodIn_app (goodIn_of _ (by decide +kernel)) ggX6_does_X6_lays
set_option maxRecDepth 20000 in
theorem ggX6_does_X6_couples : GoodIn wsX6_does wsX6_couples := goodIn_r _ [46, 47, 9, 25, 10, 11, 12, 7, 13, 14, 15, 16, 17, 18, 19, 20, 27, 28, 29, 30, 31, 32, 33, 34, 48, 49, 50, 51, 52, 53, 54, 26, 96, 97, 98, 99, 100, 101, 102, 103, 104, 105, 106, 107, 108, 109, 110, 111, 112, 113, 114, 115, 116, 117] (by decide +kernel) (by decide +kernel)
set_option maxRecDepth 20000 in
theorem gX6_does_X6_couples : GoodIn wsX6_does (wsV RX6 143 RX6 yX6_couples wsX6_couples) := goodIn_app (goodIn_of _ (by decide +kernel)) ggX6_does_X6_couples
set_option maxRecDepth 20000 in
theorem ggX6_does_X6_passes : GoodIn wsX6_does wsX6_passes := goodIn_r _ [58, 9, 59, 60, 61, 62, 7, 63, 25, 10, 11, 12, 13, 14, 15, 16, 17, 18, 19, 20, 48, 49, 50, 51, 27, 28, 29, 30, 31, 32, 33, 34, 64, 65, 66, 67, 68, 69, 70, 71, 72, 73, 74, 75, 76, 77, 78, 79, 80, 81, 82, 83, 84, 85, 86, 87, 88, 89, 90, 91, 92, 93, 94, 95, 21, 22, 23, 24, 26, 96, 97, 98, 99, 100, 101, 102, 103, 104, 105, 106, 107, 108, 109, 110, 111, 112, 113, 114, 115, 116, 117] (by decide +kernel) (by decide +kernel)
set_option maxRecDepth 20000 in
theorem gX6_does_X6_passes : GoodIn wsX6_does (wsV RX6 146 RX6 yX6_passes wsX6_passes) := goodIn_app (goodIn_of _ (by decide +kernel)) ggX6_does_X6_passes
theorem dX6_does_0 : decode cX6_does 0 = .ok (.aload_n 0, 1) := by decide +kernel
theorem dX6_does_1 : decode cX6_does 1 = .ok (.getfield 166, 3) := by decide +kernel
theorem dX6_does_4 : decode cX6_does 4 = .ok (.lookupswitch 94 #[(98, 44), (99, 81), (100, 66), (111, 57)], 44) := by decide +kernel
theorem dX6_does_48 : decode cX6_does 48 = .ok (.aload_n 0, 1) := by decide +kernel
theorem dX6_does_49 : decode cX6_does 49 = .ok (.aload_n 0, 1) := by decide +kernel
theorem dX6_does_50 : decode cX6_does 50 = .ok (.getfield 172, 3) := by decide +kernel
theorem dX6_does_53 : decode cX6_does 53 = .ok (.aload_n 0, 1) := by decide +kernel
theorem dX6_does_54 : decode cX6_does 54 = .ok (.getfield 175, 3) := by decide +kernel
theorem dX6_does_57 : decode cX6_does 57 = .ok (.invokevirtual 137, 3) := by decide +kernel
theorem dX6_does_60 : decode cX6_does 60 = .ok (.ireturn, 1) := by decide +kernel
theorem dX6_does_61 : decode cX6_does 61 = .ok (.aload_n 0, 1) := by decide +kernel
theorem dX6_does_62 : decode cX6_does 62 = .ok (.aload_n 0, 1) := by decide +kernel
theorem dX6_does_63 : decode cX6_does 63 = .ok (.getfield 172, 3) := by decide +kernel
theorem dX6_does_66 : decode cX6_does 66 = .ok (.invokevirtual 140, 3) := by decide +kernel
theorem dX6_does_69 : decode cX6_does 69 = .ok (.ireturn, 1) := by decide +kernel
theorem dX6_does_70 : decode cX6_does 70 = .ok (.aload_n 0, 1) := by decide +kernel
theorem dX6_does_71 : decode cX6_does 71 = .ok (.aload_n 0, 1) := by decide +kernel
theorem dX6_does_72 : decode cX6_does 72 = .ok (.getfield 172, 3) := by decide +kernel
theorem dX6_does_75 : decode cX6_does 75 = .ok (.bipush 6, 2) := by decide +kernel
theorem dX6_does_77 : decode cX6_does 77 = .ok (.aload_n 0, 1) := by decide +kernel
theorem dX6_does_78 : decode cX6_does 78 = .ok (.getfield 175, 3) := by decide +kernel
theorem dX6_does_81 : decode cX6_does 81 = .ok (.invokevirtual 131, 3) := by decide +kernel
theorem dX6_does_84 : decode cX6_does 84 = .ok (.ireturn, 1) := by decide +kernel
theorem dX6_does_85 : decode cX6_does 85 = .ok (.aload_n 0, 1) := by decide +kernel
theorem dX6_does_86 : decode cX6_does 86 = .ok (.aload_n 0, 1) := by decide +kernel
theorem dX6_does_87 : decode cX6_does 87 = .ok (.getfield 172, 3) := by decide +kernel
theorem dX6_does_90 : decode cX6_does 90 = .ok (.aload_n 0, 1) := by decide +kernel
theorem dX6_does_91 : decode cX6_does 91 = .ok (.getfield 175, 3) := by decide +kernel
theorem dX6_does_94 : decode cX6_does 94 = .ok (.invokevirtual 143, 3) := by decide +kernel
theorem dX6_does_97 : decode cX6_does 97 = .ok (.ireturn, 1) := by decide +kernel
theorem dX6_does_98 : decode cX6_does 98 = .ok (.aload_n 0, 1) := by decide +kernel
theorem dX6_does_99 : decode cX6_does 99 = .ok (.aload_n 0, 1) := by decide +kernel
theorem dX6_does_100 : decode cX6_does 100 = .ok (.getfield 172, 3) := by decide +kernel
theorem dX6_does_103 : decode cX6_does 103 = .ok (.invokevirtual 146, 3) := by decide +kernel
theorem dX6_does_106 : decode cX6_does 106 = .ok (.ireturn, 1) := by decide +kernel
set_option maxRecDepth 20000 in
theorem ggX6_runs_X6_readThing : GoodIn wsX6_runs wsX6_readThing := goodIn_r _ [9, 1, 4, 10, 11, 2, 12, 13, 14, 15, 16, 8, 17, 18, 19, 20, 21, 22, 23, 24, 25, 26, 27, 28, 124, 125, 126, 127, 128, 129, 130, 131, 132, 133, 134, 135, 136, 137, 138, 139, 140, 141, 142, 143, 144, 145] (by decide +kernel) (by decide +kernel)
set_option maxRecDepth 20000 in
theorem gX6_runs_X6_readThing : GoodIn wsX6_runs (wsV RX6 181 RX6 yX6_readThing wsX6_readThing) := goodIn_app (goodIn_of _ (by decide +kernel)) ggX6_runs_X6_readThing
set_option maxRecDepth 20000 in
theorem ggX6_runs_X6_does : GoodIn wsX6_runs wsX6_does := goodIn_r _ [32, 11, 12, 13, 33, 34, 35, 8, 36, 37, 38, 39, 40, 41, 42, 43, 44, 45, 46, 47, 48, 49, 50, 51, 52, 53, 54, 55, 56, 57, 58, 59, 60, 61, 62, 63, 64, 65, 66, 67, 68, 69, 70, 71, 72, 73, 74, 75, 76, 77, 78, 79, 80, 81, 82, 83, 84, 85, 86, 87, 88, 89, 90, 91, 92, 93, 94, 95, 96, 97, 98, 99, 100, 101, 102, 103, 104, 105, 106, 107, 108, 109, 110, 111, 112, 113, 114, 115, 116, 117, 118, 119, 120, 121, 122, 123, 124, 125, 126, 127, 128, 129, 130, 131, 132, 133, 134, 135, 136, 137, 138, 139, 140, 141, 142, 143, 144, 145] (by decide +kernel) (by decide +kernel)
set_option maxRecDepth 20000 in
theorem gX6_runs_X6_does : GoodIn wsX6_runs (wsV RX6 184 RX6 yX6_does wsX6_does) := goodIn_app (goodIn_of _ (by decide +kernel)) ggX6_runs_X6_does
set_option maxRecDepth 20000 in
theorem ggX6_runs_X6_takes : GoodIn wsX6_runs wsX6_takes := goodIn_r _ [21, 1, 4, 10, 2, 22, 23, 8, 24, 124, 125, 126, 127, 128, 129, 130, 131, 132, 133, 134, 135, 136, 137, 138, 139, 140, 141, 142, 143, 144, 145] (by decide +kernel) (by decide +kernel)
set_option maxRecDepth 20000 in
theorem gX6_runs_X6_takes : GoodIn wsX6_runs (wsV RX6 159 RX6 yX6_takes wsX6_takes) := goodIn_app (goodIn_of _ (by decide +kernel)) ggX6_runs_X6_takes
theorem dX6_runs_0 : decode cX6_runs 0 = .ok (.aload_n 0, 1) := by decide +kernel
theorem dX6_runs_1 : decode cX6_runs 1 = .ok (.iconst 0, 1) := by decide +kernel
theorem dX6_runs_2 : decode cX6_runs 2 = .ok (.putfield 156, 3) := by decide +kernel
theorem dX6_runs_5 : decode cX6_runs 5 = .ok (.aload_n 0, 1) := by decide +kernel
theorem dX6_runs_6 : decode cX6_runs 6 = .ok (.iconst 0, 1) := by decide +kernel
theorem dX6_runs_7 : decode cX6_runs 7 = .ok (.putfield 152, 3) := by decide +kernel
theorem dX6_runs_10 : decode cX6_runs 10 = .ok (.aload_n 0, 1) := by decide +kernel
theorem dX6_runs_11 : decode cX6_runs 11 = .ok (.iconst 0, 1) := by decide +kernel
theorem dX6_runs_12 : decode cX6_runs 12 = .ok (.putfield 178, 3) := by decide +kernel
theorem dX6_runs_15 : decode cX6_runs 15 = .ok (.iconst 0, 1) := by decide +kernel
theorem dX6_runs_16 : decode cX6_runs 16 = .ok (.istore_n 2, 1) := by decide +kernel
theorem dX6_runs_17 : decode cX6_runs 17 = .ok (.iconst 1, 1) := by decide +kernel
theorem dX6_runs_18 : decode cX6_runs 18 = .ok (.istore_n 3, 1) := by decide +kernel
theorem dX6_runs_19 : decode cX6_runs 19 = .ok (.iload_n 3, 1) := by decide +kernel
theorem dX6_runs_20 : decode cX6_runs 20 = .ok (.ifCond .eq 119, 3) := by decide +kernel
theorem dX6_runs_23 : decode cX6_runs 23 = .ok (.aload_n 0, 1) := by decide +kernel
theorem dX6_runs_24 : decode cX6_runs 24 = .ok (.invokevirtual 181, 3) := by decide +kernel
theorem dX6_runs_27 : decode cX6_runs 27 = .ok (.iload_n 1, 1) := by decide +kernel
theorem dX6_runs_28 : decode cX6_runs 28 = .ok (.ifCond .eq 10, 3) := by decide +kernel
theorem dX6_runs_31 : decode cX6_runs 31 = .ok (.aload_n 0, 1) := by decide +kernel
theorem dX6_runs_32 : decode cX6_runs 32 = .ok (.invokevirtual 184, 3) := by decide +kernel
theorem dX6_runs_35 : decode cX6_runs 35 = .ok (.goto 4, 3) := by decide +kernel
theorem dX6_runs_38 : decode cX6_runs 38 = .ok (.iconst 0, 1) := by decide +kernel
theorem dX6_runs_39 : decode cX6_runs 39 = .ok (.istore 4, 2) := by decide +kernel
theorem dX6_runs_41 : decode cX6_runs 41 = .ok (.aload_n 0, 1) := by decide +kernel
theorem dX6_runs_42 : decode cX6_runs 42 = .ok (.iload 4, 2) := by decide +kernel
theorem dX6_runs_44 : decode cX6_runs 44 = .ok (.ifCond .ge 15, 3) := by decide +kernel
theorem dX6_runs_47 : decode cX6_runs 47 = .ok (.iload 4, 2) := by decide +kernel
theorem dX6_runs_49 : decode cX6_runs 49 = .ok (.bipush (-5), 2) := by decide +kernel
theorem dX6_runs_51 : decode cX6_runs 51 = .ok (.if_icmp .eq 8, 3) := by decide +kernel
theorem dX6_runs_54 : decode cX6_runs 54 = .ok (.iload 4, 2) := by decide +kernel
theorem dX6_runs_56 : decode cX6_runs 56 = .ok (.goto 4, 3) := by decide +kernel
theorem dX6_runs_59 : decode cX6_runs 59 = .ok (.iconst 0, 1) := by decide +kernel
theorem dX6_runs_60 : decode cX6_runs 60 = .ok (.putfield 178, 3) := by decide +kernel
theorem dX6_runs_63 : decode cX6_runs 63 = .ok (.iload_n 2, 1) := by decide +kernel
theorem dX6_runs_64 : decode cX6_runs 64 = .ok (.aload_n 0, 1) := by decide +kernel
theorem dX6_runs_65 : decode cX6_runs 65 = .ok (.getfield 178, 3) := by decide +kernel
theorem dX6_runs_68 : decode cX6_runs 68 = .ok (.ifCond .ge 7, 3) := by decide +kernel
theorem dX6_runs_71 : decode cX6_runs 71 = .ok (.iconst 0, 1) := by decide +kernel
theorem dX6_runs_72 : decode cX6_runs 72 = .ok (.goto 4, 3) := by decide +kernel
theorem dX6_runs_75 : decode cX6_runs 75 = .ok (.iconst 1, 1) := by decide +kernel
theorem dX6_runs_76 : decode cX6_runs 76 = .ok (.iadd, 1) := by decide +kernel
theorem dX6_runs_77 : decode cX6_runs 77 = .ok (.istore_n 2, 1) := by decide +kernel
theorem dX6_runs_78 : decode cX6_runs 78 = .ok (.aload_n 0, 1) := by decide +kernel
theorem dX6_runs_79 : decode cX6_runs 79 = .ok (.getfield 178, 3) := by decide +kernel
theorem dX6_runs_82 : decode cX6_runs 82 = .ok (.ifCond .ne 25, 3) := by decide +kernel
theorem dX6_runs_85 : decode cX6_runs 85 = .ok (.aload_n 0, 1) := by decide +kernel
theorem dX6_runs_86 : decode cX6_runs 86 = .ok (.getfield 152, 3) := by decide +kernel
theorem dX6_runs_89 : decode cX6_runs 89 = .ok (.ifCond .ne 18, 3) := by decide +kernel
theorem dX6_runs_92 : decode cX6_runs 92 = .ok (.aload_n 0, 1) := by decide +kernel
theorem dX6_runs_93 : decode cX6_runs 93 = .ok (.getfield 156, 3) := by decide +kernel
theorem dX6_runs_96 : decode cX6_runs 96 = .ok (.aload_n 0, 1) := by decide +kernel
theorem dX6_runs_97 : decode cX6_runs 97 = .ok (.getfield 149, 3) := by decide +kernel
theorem dX6_runs_100 : decode cX6_runs 100 = .ok (.if_icmp .ge 7, 3) := by decide +kernel
theorem dX6_runs_103 : decode cX6_runs 103 = .ok (.iconst 1, 1) := by decide +kernel
theorem dX6_runs_104 : decode cX6_runs 104 = .ok (.goto 4, 3) := by decide +kernel
theorem dX6_runs_107 : decode cX6_runs 107 = .ok (.iconst 0, 1) := by decide +kernel
theorem dX6_runs_108 : decode cX6_runs 108 = .ok (.istore_n 3, 1) := by decide +kernel
theorem dX6_runs_109 : decode cX6_runs 109 = .ok (.iload_n 3, 1) := by decide +kernel
theorem dX6_runs_110 : decode cX6_runs 110 = .ok (.ifCond .eq 26, 3) := by decide +kernel
theorem dX6_runs_113 : decode cX6_runs 113 = .ok (.aload_n 0, 1) := by decide +kernel
theorem dX6_runs_114 : decode cX6_runs 114 = .ok (.bipush 59, 2) := by decide +kernel
theorem dX6_runs_116 : decode cX6_runs 116 = .ok (.bipush 59, 2) := by decide +kernel
theorem dX6_runs_118 : decode cX6_runs 118 = .ok (.invokevirtual 159, 3) := by decide +kernel
theorem dX6_runs_121 : decode cX6_runs 121 = .ok (.istore 5, 2) := by decide +kernel
theorem dX6_runs_123 : decode cX6_runs 123 = .ok (.aload_n 0, 1) := by decide +kernel
theorem dX6_runs_124 : decode cX6_runs 124 = .ok (.getfield 152, 3) := by decide +kernel
theorem dX6_runs_127 : decode cX6_runs 127 = .ok (.ifCond .ne 7, 3) := by decide +kernel
theorem dX6_runs_130 : decode cX6_runs 130 = .ok (.iconst 1, 1) := by decide +kernel
theorem dX6_runs_131 : decode cX6_runs 131 = .ok (.goto 4, 3) := by decide +kernel
theorem dX6_runs_134 : decode cX6_runs 134 = .ok (.iconst 0, 1) := by decide +kernel
theorem dX6_runs_135 : decode cX6_runs 135 = .ok (.istore_n 3, 1) := by decide +kernel
theorem dX6_runs_136 : decode cX6_runs 136 = .ok (.goto (-117), 3) := by decide +kernel
theorem dX6_runs_139 : decode cX6_runs 139 = .ok (.iload_n 2, 1) := by decide +kernel
theorem dX6_runs_140 : decode cX6_runs 140 = .ok (.ireturn, 1) := by decide +kernel
set_option maxRecDepth 20000 in
theorem ggX6_perform_X6_runs : GoodIn wsX6_perform wsX6_runs := goodIn_r _ [10, 2, 1, 3, 11, 12, 13, 14, 9, 15, 16, 17, 18, 19, 20, 21, 22, 23, 24, 25, 26, 27, 28, 29, 30, 31, 32, 33, 34, 35, 36, 37, 38, 39, 40, 41, 42, 43, 44, 45, 46, 47, 48, 49, 50, 51, 52, 53, 54, 55, 56, 57, 58, 59, 60, 61, 62, 63, 64, 65, 66, 67, 68, 69, 70, 71, 72, 73, 74, 75, 76, 77, 78, 79, 80, 81, 82, 83, 84, 85, 86, 87, 88, 89, 90, 91, 92, 93, 94, 95, 96, 97, 98, 99, 100, 101, 102, 103, 104, 105, 106, 107, 108, 109, 110, 111, 112, 113, 114, 115, 116, 117, 118, 119, 120, 121, 122, 123, 124, 125, 126, 127, 128, 129, 147, 148, 149, 150, 151, 152, 153, 154, 155, 156, 157, 158, 159, 160, 161, 162, 163, 164, 165, 166, 167, 168] (by decide +kernel) (by decide +kernel)
set_option maxRecDepth 20000 in
theorem gX6_perform_X6_runs : GoodIn wsX6_perform (wsV RX6 188 RX6 yX6_runs wsX6_runs) := goodIn_app (goodIn_of _ (by decide +kernel)) ggX6_perform_X6_runs
set_option maxRecDepth 20000 in
theorem ggX6_perform_X6_looks : GoodIn wsX6_perform wsX6_looks := goodIn_r _ [133, 134, 43, 135, 59, 147, 148, 149, 150, 151, 152, 153, 154, 155, 156, 157, 158, 159, 160, 161, 162, 163, 164, 165, 166, 167, 168] (by decide +kernel) (by decide +kernel)
set_option maxRecDepth 20000 in
theorem gX6_perform_X6_looks : GoodIn wsX6_perform (wsV RX6 122 RX6 yX6_looks wsX6_looks) := goodIn_app (goodIn_of _ (by decide +kernel)) ggX6_perform_X6_looks
set_option maxRecDepth 20000 in
theorem ggX6_perform_X6_looksBack : GoodIn wsX6_perform wsX6_looksBack := goodIn_r _ [139, 43, 134, 59, 135, 147, 148, 149, 150, 151, 152, 153, 154, 155, 156, 157, 158, 159, 160, 161, 162, 163, 164, 165, 166, 167, 168] (by decide +kernel) (by decide +kernel)
set_option maxRecDepth 20000 in
theorem gX6_perform_X6_looksBack : GoodIn wsX6_perform (wsV RX6 192 RX6 yX6_looksBack wsX6_looksBack) := goodIn_app (goodIn_of _ (by decide +kernel)) ggX6_perform_X6_looksBack
set_option maxRecDepth 20000 in
theorem ggX6_perform_X6_records : GoodIn wsX6_perform wsX6_records := goodIn_r _ [143, 144, 145, 146, 134, 135, 147, 148, 149, 150, 151, 152, 153, 154, 155, 156, 157, 158, 159, 160, 161, 162, 163, 164, 165, 166, 167, 168] (by decide +kernel) (by decide +kernel)
set_option maxRecDepth 20000 in
theorem gX6_perform_X6_records : GoodIn wsX6_perform (wsV RX6 116 RX6 yX6_records wsX6_records) := goodIn_app (goodIn_of _ (by decide +kernel)) ggX6_perform_X6_records
theorem dX6_perform_0 : decode cX6_perform 0 = .ok (.aload_n 0, 1) := by decide +kernel
theorem dX6_perform_1 : decode cX6_perform 1 = .ok (.iconst 0, 1) := by decide +kernel
theorem dX6_perform_2 : decode cX6_perform 2 = .ok (.invokevirtual 188, 3) := by decide +kernel
theorem dX6_perform_5 : decode cX6_perform 5 = .ok (.istore_n 1, 1) := by decide +kernel
theorem dX6_perform_6 : decode cX6_perform 6 = .ok (.aload_n 0, 1) := by decide +kernel
theorem dX6_perform_7 : decode cX6_perform 7 = .ok (.getfield 152, 3) := by decide +kernel
theorem dX6_perform_10 : decode cX6_perform 10 = .ok (.ifCond .eq 11, 3) := by decide +kernel
theorem dX6_perform_13 : decode cX6_perform 13 = .ok (.bipush (-100), 2) := by decide +kernel
theorem dX6_perform_15 : decode cX6_perform 15 = .ok (.aload_n 0, 1) := by decide +kernel
theorem dX6_perform_16 : decode cX6_perform 16 = .ok (.getfield 156, 3) := by decide +kernel
theorem dX6_perform_19 : decode cX6_perform 19 = .ok (.isub, 1) := by decide +kernel
theorem dX6_perform_20 : decode cX6_perform 20 = .ok (.ireturn, 1) := by decide +kernel
theorem dX6_perform_21 : decode cX6_perform 21 = .ok (.aload_n 0, 1) := by decide +kernel
theorem dX6_perform_22 : decode cX6_perform 22 = .ok (.invokevirtual 122, 3) := by decide +kernel
theorem dX6_perform_25 : decode cX6_perform 25 = .ok (.aload_n 0, 1) := by decide +kernel
theorem dX6_perform_26 : decode cX6_perform 26 = .ok (.iconst 1, 1) := by decide +kernel
theorem dX6_perform_27 : decode cX6_perform 27 = .ok (.invokevirtual 188, 3) := by decide +kernel
theorem dX6_perform_30 : decode cX6_perform 30 = .ok (.istore_n 2, 1) := by decide +kernel
theorem dX6_perform_31 : decode cX6_perform 31 = .ok (.aload_n 0, 1) := by decide +kernel
theorem dX6_perform_32 : decode cX6_perform 32 = .ok (.getfield 178, 3) := by decide +kernel
theorem dX6_perform_35 : decode cX6_perform 35 = .ok (.ifCond .ge 23, 3) := by decide +kernel
theorem dX6_perform_38 : decode cX6_perform 38 = .ok (.aload_n 0, 1) := by decide +kernel
theorem dX6_perform_39 : decode cX6_perform 39 = .ok (.iload_n 2, 1) := by decide +kernel
theorem dX6_perform_40 : decode cX6_perform 40 = .ok (.putfield 38, 3) := by decide +kernel
theorem dX6_perform_43 : decode cX6_perform 43 = .ok (.aload_n 0, 1) := by decide +kernel
theorem dX6_perform_44 : decode cX6_perform 44 = .ok (.aload_n 0, 1) := by decide +kernel
theorem dX6_perform_45 : decode cX6_perform 45 = .ok (.getfield 178, 3) := by decide +kernel
theorem dX6_perform_48 : decode cX6_perform 48 = .ok (.putfield 42, 3) := by decide +kernel
theorem dX6_perform_51 : decode cX6_perform 51 = .ok (.aload_n 0, 1) := by decide +kernel
theorem dX6_perform_52 : decode cX6_perform 52 = .ok (.invokevirtual 192, 3) := by decide +kernel
theorem dX6_perform_55 : decode cX6_perform 55 = .ok (.bipush (-4), 2) := by decide +kernel
theorem dX6_perform_57 : decode cX6_perform 57 = .ok (.ireturn, 1) := by decide +kernel
theorem dX6_perform_58 : decode cX6_perform 58 = .ok (.aload_n 0, 1) := by decide +kernel
theorem dX6_perform_59 : decode cX6_perform 59 = .ok (.invokevirtual 116, 3) := by decide +kernel
theorem dX6_perform_62 : decode cX6_perform 62 = .ok (.iload_n 2, 1) := by decide +kernel
theorem dX6_perform_63 : decode cX6_perform 63 = .ok (.ireturn, 1) := by decide +kernel
theorem dX6_stopped_0 : decode cX6_stopped 0 = .ok (.iload_n 1, 1) := by decide +kernel
theorem dX6_stopped_1 : decode cX6_stopped 1 = .ok (.ifCond .ne 10, 3) := by decide +kernel
theorem dX6_stopped_4 : decode cX6_stopped 4 = .ok (.aload_n 0, 1) := by decide +kernel
theorem dX6_stopped_5 : decode cX6_stopped 5 = .ok (.getfield 38, 3) := by decide +kernel
theorem dX6_stopped_8 : decode cX6_stopped 8 = .ok (.goto 17, 3) := by decide +kernel
theorem dX6_stopped_11 : decode cX6_stopped 11 = .ok (.iload_n 1, 1) := by decide +kernel
theorem dX6_stopped_12 : decode cX6_stopped 12 = .ok (.iconst 1, 1) := by decide +kernel
theorem dX6_stopped_13 : decode cX6_stopped 13 = .ok (.if_icmp .ne 10, 3) := by decide +kernel
theorem dX6_stopped_16 : decode cX6_stopped 16 = .ok (.aload_n 0, 1) := by decide +kernel
theorem dX6_stopped_17 : decode cX6_stopped 17 = .ok (.getfield 42, 3) := by decide +kernel
theorem dX6_stopped_20 : decode cX6_stopped 20 = .ok (.goto 5, 3) := by decide +kernel
theorem dX6_stopped_23 : decode cX6_stopped 23 = .ok (.bipush (-2), 2) := by decide +kernel
theorem dX6_stopped_25 : decode cX6_stopped 25 = .ok (.ireturn, 1) := by decide +kernel
