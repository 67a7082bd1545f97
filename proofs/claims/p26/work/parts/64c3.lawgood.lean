set_option maxRecDepth 20000 in
theorem ggL_law_L_act_q0 : GoodIn wsL_law [.code yL_act cL_act 6 (some .int)] := goodIn_r _ [228] (by decide +kernel) (by decide +kernel)
set_option maxRecDepth 20000 in
theorem ggL_law_L_act_q1 : GoodIn wsL_law wsL_act_r1 := goodIn_r _ [222, 223, 63, 224, 225, 229, 230, 231, 2, 232, 13, 12, 205, 183, 184, 11, 185, 32, 186, 187, 188, 189, 190, 191] (by decide +kernel) (by decide +kernel)
set_option maxRecDepth 20000 in
theorem ggL_law_L_act_q2 : GoodIn wsL_law wsL_act_r2 := goodIn_r _ [21, 192, 37, 193, 194, 195, 196, 118, 95, 38, 94, 197, 198, 199, 233, 234, 235, 236, 237, 81, 82, 238, 84, 85] (by decide +kernel) (by decide +kernel)
set_option maxRecDepth 20000 in
theorem ggL_law_L_act_q3 : GoodIn wsL_law wsL_act_r3 := goodIn_r _ [239, 240, 241, 242, 243, 244, 245, 246, 247, 248, 249, 100, 87, 88, 89, 206, 207, 208, 209, 18, 210, 211, 212, 17] (by decide +kernel) (by decide +kernel)
set_option maxRecDepth 20000 in
theorem ggL_law_L_act_q4 : GoodIn wsL_law wsL_act_r4 := goodIn_r _ [213, 181, 44, 214, 215, 216, 217, 182, 250, 251, 252, 253, 254, 255, 256, 257, 258, 259, 260, 261, 262, 263, 264, 265] (by decide +kernel) (by decide +kernel)
set_option maxRecDepth 20000 in
theorem ggL_law_L_act_q5 : GoodIn wsL_law wsL_act_r5 := goodIn_r _ [266, 267, 268, 269, 270, 271, 272, 273, 274, 275, 276, 277, 149, 150, 278, 279, 280, 66, 67, 68, 69, 70, 71, 72] (by decide +kernel) (by decide +kernel)
set_option maxRecDepth 20000 in
theorem ggL_law_L_act_q6 : GoodIn wsL_law wsL_act_r6 := goodIn_r _ [73, 74, 75, 76, 77, 78, 79, 80, 83, 86, 90, 91, 92, 93, 96, 97, 98, 99, 101, 102, 103, 104, 105, 106] (by decide +kernel) (by decide +kernel)
set_option maxRecDepth 20000 in
theorem ggL_law_L_act_q7 : GoodIn wsL_law wsL_act_r7 := goodIn_r _ [107, 108, 109, 110, 111, 112, 113, 114, 115, 116, 117, 152, 153, 154, 155, 156, 157, 158, 159, 26, 160, 161, 162, 163] (by decide +kernel) (by decide +kernel)
set_option maxRecDepth 20000 in
theorem ggL_law_L_act_q8 : GoodIn wsL_law wsL_act_r8 := goodIn_r _ [164, 165, 166, 167, 168, 129, 130, 131, 132, 133, 134, 135, 136, 137, 138, 139, 140, 141, 142, 143, 281, 282, 283, 284] (by decide +kernel) (by decide +kernel)
set_option maxRecDepth 20000 in
theorem ggL_law_L_act_q9 : GoodIn wsL_law wsL_act_r9 := goodIn_r _ [285, 286, 287, 288, 289, 290, 291, 292, 293, 294, 295, 296, 297, 298, 299, 300, 301, 302, 303, 304, 305, 306, 307, 308] (by decide +kernel) (by decide +kernel)
set_option maxRecDepth 20000 in
theorem ggL_law_L_act_q10 : GoodIn wsL_law wsL_act_r10 := goodIn_r _ [309, 310, 311, 312, 313, 314, 315, 316, 317, 318, 319, 320, 321, 322] (by decide +kernel) (by decide +kernel)
set_option maxRecDepth 20000 in
theorem ggL_law_L_act_q11 : GoodIn wsL_law wsX50 := goodIn_r _ [359, 360, 361, 362, 363, 364, 365, 366, 367, 368] (by decide +kernel) (by decide +kernel)
set_option maxRecDepth 20000 in
theorem ggL_law_L_act_q12 : GoodIn wsL_law wsX20 := goodIn_r _ [369, 370, 371, 372] (by decide +kernel) (by decide +kernel)
set_option maxRecDepth 20000 in
theorem ggL_law_L_act_q13 : GoodIn wsL_law wsX10 := goodIn_r _ [375, 376, 377, 378, 379, 380, 381, 382] (by decide +kernel) (by decide +kernel)
set_option maxRecDepth 20000 in
theorem ggL_law_L_act_q14 : GoodIn wsL_law wsX00 := goodIn_r _ [373, 374] (by decide +kernel) (by decide +kernel)
set_option maxRecDepth 20000 in
theorem ggL_law_L_act_q15 : GoodIn wsL_law wsX40 := goodIn_r _ [383, 384, 385, 386, 387, 388, 389, 390] (by decide +kernel) (by decide +kernel)
set_option maxRecDepth 20000 in
theorem ggL_law_L_act_q16 : GoodIn wsL_law wsX30 := goodIn_r _ [391, 392] (by decide +kernel) (by decide +kernel)
theorem ggL_law_L_act : GoodIn wsL_law wsL_act := by
  intro w h
  rcases List.mem_cons.mp h with rfl | h
  · exact ggL_law_L_act_q0 _ List.mem_cons_self
  simp only [List.mem_append, List.not_mem_nil, or_false] at h
  rcases h with (((((((h | h | h | h | h | h | h | h | h | h) | h) | h) | h) | h) | h) | h)
  · exact ggL_law_L_act_q1 w h
  · exact ggL_law_L_act_q2 w h
  · exact ggL_law_L_act_q3 w h
  · exact ggL_law_L_act_q4 w h
  · exact ggL_law_L_act_q5 w h
  · exact ggL_law_L_act_q6 w h
  · exact ggL_law_L_act_q7 w h
  · exact ggL_law_L_act_q8 w h
  · exact ggL_law_L_act_q9 w h
  · exact ggL_law_L_act_q10 w h
  · exact ggL_law_L_act_q11 w h
  · exact ggL_law_L_act_q12 w h
  · exact ggL_law_L_act_q13 w h
  · exact ggL_law_L_act_q14 w h
  · exact ggL_law_L_act_q15 w h
  · exact ggL_law_L_act_q16 w h
set_option maxRecDepth 20000 in
theorem gL_law_L_act : GoodIn wsL_law (va_wsS RL 104 yL_act wsL_act) := goodIn_app (goodIn_of _ (by decide +kernel)) ggL_law_L_act
