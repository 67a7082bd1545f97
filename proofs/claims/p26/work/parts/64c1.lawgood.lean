set_option maxRecDepth 20000 in
theorem ggL_law_L_holds_q0 : GoodIn wsL_law [.code yL_holds cL_holds 10 (some .boolean)] := goodIn_r _ [64] (by decide +kernel) (by decide +kernel)
set_option maxRecDepth 20000 in
theorem ggL_law_L_holds_q1 : GoodIn wsL_law wsL_holds_r1 := goodIn_r _ [65, 66, 67, 68, 2, 69, 12, 70, 71, 72, 73, 74, 75, 76, 77, 78, 79, 80, 81, 82, 83, 84, 21, 85] (by decide +kernel) (by decide +kernel)
set_option maxRecDepth 20000 in
theorem ggL_law_L_holds_q2 : GoodIn wsL_law wsL_holds_r2 := goodIn_r _ [86, 87, 88, 89, 37, 90, 91, 92, 93, 94, 38, 95, 96, 97, 98, 99, 100, 101, 102, 103, 104, 105, 106, 107] (by decide +kernel) (by decide +kernel)
set_option maxRecDepth 20000 in
theorem ggL_law_L_holds_q3 : GoodIn wsL_law wsL_holds_r3 := goodIn_r _ [108, 109, 110, 111, 112, 113, 114, 115, 116, 117, 118, 119, 120, 63, 121, 122, 123, 124, 125, 126, 127, 128, 129, 130] (by decide +kernel) (by decide +kernel)
set_option maxRecDepth 20000 in
theorem ggL_law_L_holds_q4 : GoodIn wsL_law wsL_holds_r4 := goodIn_r _ [131, 132, 133, 134, 135, 136, 137, 138, 139, 140, 141, 142, 143, 144, 145, 146, 147, 148, 149, 150, 151, 152, 153, 154] (by decide +kernel) (by decide +kernel)
set_option maxRecDepth 20000 in
theorem ggL_law_L_holds_q5 : GoodIn wsL_law wsL_holds_r5 := goodIn_r _ [155, 156, 157, 158, 18, 159, 26, 160, 161, 162, 163, 164, 165, 166, 167, 168, 169, 170, 171, 172] (by decide +kernel) (by decide +kernel)
set_option maxRecDepth 20000 in
theorem ggL_law_L_holds_q6 : GoodIn wsL_law wsX50 := goodIn_r _ [359, 360, 361, 362, 363, 364, 365, 366, 367, 368] (by decide +kernel) (by decide +kernel)
set_option maxRecDepth 20000 in
theorem ggL_law_L_holds_q7 : GoodIn wsL_law wsX20 := goodIn_r _ [369, 370, 371, 372] (by decide +kernel) (by decide +kernel)
set_option maxRecDepth 20000 in
theorem ggL_law_L_holds_q8 : GoodIn wsL_law wsX10 := goodIn_r _ [375, 376, 377, 378, 379, 380, 381, 382] (by decide +kernel) (by decide +kernel)
set_option maxRecDepth 20000 in
theorem ggL_law_L_holds_q9 : GoodIn wsL_law wsX00 := goodIn_r _ [373, 374] (by decide +kernel) (by decide +kernel)
set_option maxRecDepth 20000 in
theorem ggL_law_L_holds_q10 : GoodIn wsL_law wsX40 := goodIn_r _ [383, 384, 385, 386, 387, 388, 389, 390] (by decide +kernel) (by decide +kernel)
set_option maxRecDepth 20000 in
theorem ggL_law_L_holds_q11 : GoodIn wsL_law wsX30 := goodIn_r _ [391, 392] (by decide +kernel) (by decide +kernel)
theorem ggL_law_L_holds : GoodIn wsL_law wsL_holds := by
  intro w h
  rcases List.mem_cons.mp h with rfl | h
  · exact ggL_law_L_holds_q0 _ List.mem_cons_self
  simp only [List.mem_append, List.not_mem_nil, or_false] at h
  rcases h with (((((((h | h | h | h | h) | h) | h) | h) | h) | h) | h)
  · exact ggL_law_L_holds_q1 w h
  · exact ggL_law_L_holds_q2 w h
  · exact ggL_law_L_holds_q3 w h
  · exact ggL_law_L_holds_q4 w h
  · exact ggL_law_L_holds_q5 w h
  · exact ggL_law_L_holds_q6 w h
  · exact ggL_law_L_holds_q7 w h
  · exact ggL_law_L_holds_q8 w h
  · exact ggL_law_L_holds_q9 w h
  · exact ggL_law_L_holds_q10 w h
  · exact ggL_law_L_holds_q11 w h
set_option maxRecDepth 20000 in
theorem gL_law_L_holds : GoodIn wsL_law (va_wsS RL 93 yL_holds wsL_holds) := goodIn_app (goodIn_of _ (by decide +kernel)) ggL_law_L_holds
