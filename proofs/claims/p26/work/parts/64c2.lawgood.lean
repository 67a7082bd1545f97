set_option maxRecDepth 20000 in
theorem ggL_law_X5_undo : GoodIn wsL_law wsX5_undo := goodIn_r _ [176, 18, 12, 177, 178, 179, 17, 180, 181, 44, 182, 183, 184, 11, 185, 32, 186, 187, 188, 189, 190, 191, 21, 192, 37, 193, 194, 195, 196, 118, 95, 38, 94, 197, 198, 199, 359, 360, 361, 362, 363, 364, 365, 366, 367, 368, 373, 374, 369, 370, 371, 372, 375, 376, 377, 378, 379, 380, 381, 382] (by decide +kernel) (by decide +kernel)
set_option maxRecDepth 20000 in
theorem gL_law_X5_undo : GoodIn wsL_law (wsV RL 76 RX5 yX5_undo wsX5_undo) := goodIn_app (goodIn_of _ (by decide +kernel)) ggL_law_X5_undo
set_option maxRecDepth 20000 in
theorem ggL_law_X5_restore : GoodIn wsL_law wsX5_restore := goodIn_r _ [203, 204, 13, 12, 14, 156, 205, 183, 184, 11, 185, 32, 186, 187, 188, 189, 190, 191, 21, 192, 37, 193, 194, 195, 196, 118, 95, 38, 94, 197, 198, 199, 206, 207, 208, 2, 209, 18, 210, 211, 212, 17, 213, 181, 44, 214, 215, 216, 217, 182, 359, 360, 361, 362, 363, 364, 365, 366, 367, 368, 369, 370, 371, 372, 375, 376, 377, 378, 379, 380, 381, 382, 373, 374] (by decide +kernel) (by decide +kernel)
set_option maxRecDepth 20000 in
theorem gL_law_X5_restore : GoodIn wsL_law (wsV RL 97 RX5 yX5_restore wsX5_restore) := goodIn_app (goodIn_of _ (by decide +kernel)) ggL_law_X5_restore
set_option maxRecDepth 20000 in
theorem ggL_law_X5_count : GoodIn wsL_law wsX5_count := goodIn_r _ [155, 12, 156, 157, 158, 18, 159, 26, 160, 161, 162, 163, 164, 2, 165, 70, 166, 167, 168, 75, 73, 72, 129, 130, 131, 21, 132, 118, 133, 77, 78, 79, 37, 134, 135, 136, 137, 138, 91, 92, 93, 94, 38, 95, 96, 97, 98, 99, 100, 87, 88, 89, 139, 102, 103, 104, 140, 141, 142, 143, 86, 359, 360, 361, 362, 363, 364, 365, 366, 367, 368, 369, 370, 371, 372, 373, 374, 383, 384, 385, 386, 387, 388, 389, 390, 391, 392, 375, 376, 377, 378, 379, 380, 381, 382] (by decide +kernel) (by decide +kernel)
set_option maxRecDepth 20000 in
theorem gL_law_X5_count : GoodIn wsL_law (wsV RL 45 RX5 yX5_count wsX5_count) := goodIn_app (goodIn_of _ (by decide +kernel)) ggL_law_X5_count
set_option maxRecDepth 20000 in
theorem ggL_law_L_cell : GoodIn wsL_law wsL_cell := goodIn_r _ [220, 221] (by decide +kernel) (by decide +kernel)
set_option maxRecDepth 20000 in
theorem gL_law_L_cell : GoodIn wsL_law (va_wsS RL 100 yL_cell wsL_cell) := goodIn_app (goodIn_of _ (by decide +kernel)) ggL_law_L_cell
set_option maxRecDepth 20000 in
theorem ggL_law_L_low : GoodIn wsL_law wsL_low := goodIn_r _ [224, 225] (by decide +kernel) (by decide +kernel)
set_option maxRecDepth 20000 in
theorem gL_law_L_low : GoodIn wsL_law (va_wsS RL 9 yL_low wsL_low) := goodIn_app (goodIn_of _ (by decide +kernel)) ggL_law_L_low
