set_option maxRecDepth 20000 in
theorem ggL_law_L_tries_q0 : GoodIn wsL_law [.code yL_tries cL_tries 10 (some .boolean)] := goodIn_r _ [325] (by decide +kernel) (by decide +kernel)
set_option maxRecDepth 20000 in
theorem ggL_law_L_tries_q1 : GoodIn wsL_law wsL_tries_r1 := goodIn_r _ [222, 223, 63, 224, 225, 326, 327, 328, 2, 329, 22, 12, 70, 72, 80, 81, 82, 330, 190, 191, 21, 192, 37, 193] (by decide +kernel) (by decide +kernel)
set_option maxRecDepth 20000 in
theorem ggL_law_L_tries_q2 : GoodIn wsL_law wsL_tries_r2 := goodIn_r _ [194, 195, 196, 118, 95, 38, 94, 197, 198, 199, 331, 314, 315, 316, 317, 318, 319, 320, 321, 115, 116, 117, 100, 87] (by decide +kernel) (by decide +kernel)
set_option maxRecDepth 20000 in
theorem ggL_law_L_tries_q3 : GoodIn wsL_law wsL_tries_r3 := goodIn_r _ [88, 89, 134, 135, 136, 137, 138, 91, 92, 93, 96, 97, 98, 99, 139, 102, 103, 104, 140, 141, 142, 143, 133, 77] (by decide +kernel) (by decide +kernel)
set_option maxRecDepth 20000 in
theorem ggL_law_L_tries_q4 : GoodIn wsL_law wsL_tries_r4 := goodIn_r _ [78, 79, 322, 246, 247, 248, 249, 332, 333, 334, 335, 66, 67, 68, 69, 71, 73, 74, 75, 76, 83, 84, 85, 86] (by decide +kernel) (by decide +kernel)
set_option maxRecDepth 20000 in
theorem ggL_law_L_tries_q5 : GoodIn wsL_law wsL_tries_r5 := goodIn_r _ [90, 101, 304, 305, 306, 307, 13, 205, 183, 184, 11, 185, 32, 186, 187, 188, 189, 308, 309, 310, 311, 312, 313, 206] (by decide +kernel) (by decide +kernel)
set_option maxRecDepth 20000 in
theorem ggL_law_L_tries_q6 : GoodIn wsL_law wsL_tries_r6 := goodIn_r _ [207, 208, 209, 18, 210, 211, 212, 17, 213, 181, 44, 214, 215, 216, 217, 182, 173, 174, 175, 176, 177, 178, 179, 180] (by decide +kernel) (by decide +kernel)
set_option maxRecDepth 20000 in
theorem ggL_law_L_tries_q7 : GoodIn wsL_law wsL_tries_r7 := goodIn_r _ [336, 337, 338, 339, 340, 341, 342, 343, 344, 345, 346, 347, 348, 349, 350, 351, 352, 353, 354, 355, 250, 251, 252, 253] (by decide +kernel) (by decide +kernel)
set_option maxRecDepth 20000 in
theorem ggL_law_L_tries_q8 : GoodIn wsL_law wsL_tries_r8 := goodIn_r _ [254, 255, 256, 257, 258, 259, 260, 245, 125, 126, 127, 128, 129, 130, 131, 132, 356, 357, 358] (by decide +kernel) (by decide +kernel)
set_option maxRecDepth 20000 in
theorem ggL_law_L_tries_q9 : GoodIn wsL_law wsX50 := goodIn_r _ [359, 360, 361, 362, 363, 364, 365, 366, 367, 368] (by decide +kernel) (by decide +kernel)
set_option maxRecDepth 20000 in
theorem ggL_law_L_tries_q10 : GoodIn wsL_law wsX20 := goodIn_r _ [369, 370, 371, 372] (by decide +kernel) (by decide +kernel)
set_option maxRecDepth 20000 in
theorem ggL_law_L_tries_q11 : GoodIn wsL_law wsX10 := goodIn_r _ [375, 376, 377, 378, 379, 380, 381, 382] (by decide +kernel) (by decide +kernel)
set_option maxRecDepth 20000 in
theorem ggL_law_L_tries_q12 : GoodIn wsL_law wsX00 := goodIn_r _ [373, 374] (by decide +kernel) (by decide +kernel)
theorem ggL_law_L_tries : GoodIn wsL_law wsL_tries := by
  intro w h
  rcases List.mem_cons.mp h with rfl | h
  · exact ggL_law_L_tries_q0 _ List.mem_cons_self
  simp only [List.mem_append, List.not_mem_nil, or_false] at h
  rcases h with (((((h | h | h | h | h | h | h | h) | h) | h) | h) | h)
  · exact ggL_law_L_tries_q1 w h
  · exact ggL_law_L_tries_q2 w h
  · exact ggL_law_L_tries_q3 w h
  · exact ggL_law_L_tries_q4 w h
  · exact ggL_law_L_tries_q5 w h
  · exact ggL_law_L_tries_q6 w h
  · exact ggL_law_L_tries_q7 w h
  · exact ggL_law_L_tries_q8 w h
  · exact ggL_law_L_tries_q9 w h
  · exact ggL_law_L_tries_q10 w h
  · exact ggL_law_L_tries_q11 w h
  · exact ggL_law_L_tries_q12 w h
set_option maxRecDepth 20000 in
theorem gL_law_L_tries : GoodIn wsL_law (va_wsS RL 108 yL_tries wsL_tries) := goodIn_app (goodIn_of _ (by decide +kernel)) ggL_law_L_tries
