set_option maxRecDepth 20000 in
theorem ggL_holds_X5_reason : GoodIn wsL_holds wsX5_reason := goodIn_r _ [70, 7, 8, 18, 19, 5, 20, 71, 72, 73, 23, 74, 59, 75, 15, 16, 17, 29, 76, 77, 78, 79, 80, 31, 32, 33, 34, 35, 36, 37, 38, 39, 40, 41, 26, 27, 28, 81, 43, 44, 45, 82, 83, 84, 85, 117, 118, 119, 120, 121, 122, 123, 124, 125, 126, 127, 128, 129, 130, 131, 132, 133, 134, 135, 136, 137, 138] (by decide +kernel) (by decide +kernel)
set_option maxRecDepth 20000 in
theorem gL_holds_X5_reason : GoodIn wsL_holds (wsV RL 54 RX5 yX5_reason wsX5_reason) := goodIn_app (goodIn_of _ (by decide +kernel)) ggL_holds_X5_reason
set_option maxRecDepth 20000 in
theorem ggL_holds_X5_count : GoodIn wsL_holds wsX5_count := goodIn_r _ [97, 7, 98, 99, 100, 101, 102, 103, 104, 105, 106, 107, 108, 5, 109, 8, 110, 111, 112, 13, 11, 10, 71, 72, 73, 23, 74, 59, 75, 15, 16, 17, 29, 76, 77, 78, 79, 80, 31, 32, 33, 34, 35, 36, 37, 38, 39, 40, 41, 26, 27, 28, 81, 43, 44, 45, 82, 83, 84, 85, 25, 117, 118, 119, 120, 121, 122, 123, 124, 125, 126, 127, 128, 129, 130, 139, 140, 141, 142, 143, 144, 145, 146, 147, 148, 149, 150, 131, 132, 133, 134, 135, 136, 137, 138] (by decide +kernel) (by decide +kernel)
set_option maxRecDepth 20000 in
theorem gL_holds_X5_count : GoodIn wsL_holds (wsV RL 45 RX5 yX5_count wsX5_count) := goodIn_app (goodIn_of _ (by decide +kernel)) ggL_holds_X5_count
set_option maxRecDepth 20000 in
theorem ggL_holds_X5_strongest : GoodIn wsL_holds wsX5_strongest := goodIn_r _ [116, 7, 8, 10, 30, 31, 32, 23, 33, 34, 35, 29, 36, 37, 38, 39, 40, 41, 26, 27, 28, 117, 118, 119, 120, 121, 122, 123, 124, 125, 126, 127, 128, 129, 130, 131, 132, 133, 134, 135, 136, 137, 138] (by decide +kernel) (by decide +kernel)
set_option maxRecDepth 20000 in
theorem gL_holds_X5_strongest : GoodIn wsL_holds (wsV RL 66 RX5 yX5_strongest wsX5_strongest) := goodIn_app (goodIn_of _ (by decide +kernel)) ggL_holds_X5_strongest
set_option maxRecDepth 20000 in
theorem ggL_tries_L_low : GoodIn wsL_tries wsL_low := goodIn_r _ [4, 5] (by decide +kernel) (by decide +kernel)
set_option maxRecDepth 20000 in
theorem gL_tries_L_low : GoodIn wsL_tries (va_wsS RL 9 yL_low wsL_low) := goodIn_app (goodIn_of _ (by decide +kernel)) ggL_tries_L_low
set_option maxRecDepth 20000 in
theorem ggL_tries_X5_depthIn : GoodIn wsL_tries wsX5_depthIn := goodIn_r _ [10, 11, 12, 13, 14, 15, 16, 9, 17, 18, 19, 20, 21, 22, 23, 24, 25, 26, 27, 28, 29, 30, 31, 32, 33, 34, 35, 36, 37, 38, 39, 40, 41, 42, 43, 44, 45, 46, 47, 48, 49, 50, 51, 52, 53, 54, 55, 56, 57, 58, 59, 60, 61, 62, 63, 64, 65, 66, 67, 68, 69, 70, 71, 72, 73, 74, 75, 76, 77, 78, 79, 188, 189, 190, 191, 192, 193, 194, 195, 196, 197, 198, 199, 200, 201, 202, 203, 204, 205, 206, 207, 208, 209] (by decide +kernel) (by decide +kernel)
set_option maxRecDepth 20000 in
theorem gL_tries_X5_depthIn : GoodIn wsL_tries (wsV RL 70 RX5 yX5_depthIn wsX5_depthIn) := goodIn_app (goodIn_of _ (by decide +kernel)) ggL_tries_X5_depthIn
set_option maxRecDepth 20000 in
theorem ggL_tries_X5_restsIn : GoodIn wsL_tries wsX5_restsIn := goodIn_r _ [83, 11, 12, 13, 15, 16, 9, 17, 18, 19, 20, 21, 22, 23, 24, 25, 26, 27, 28, 29, 30, 31, 32, 33, 34, 35, 36, 37, 38, 39, 40, 41, 42, 43, 44, 45, 46, 47, 48, 49, 50, 51, 52, 53, 54, 55, 56, 57, 58, 59, 60, 61, 62, 63, 64, 65, 66, 67, 68, 69, 70, 71, 72, 73, 74, 75, 76, 77, 78, 79, 188, 189, 190, 191, 192, 193, 194, 195, 196, 197, 198, 199, 200, 201, 202, 203, 204, 205, 206, 207, 208, 209] (by decide +kernel) (by decide +kernel)
set_option maxRecDepth 20000 in
theorem gL_tries_X5_restsIn : GoodIn wsL_tries (wsV RL 73 RX5 yX5_restsIn wsX5_restsIn) := goodIn_app (goodIn_of _ (by decide +kernel)) ggL_tries_X5_restsIn
set_option maxRecDepth 20000 in
theorem ggL_tries_X5_pair : GoodIn wsL_tries wsX5_pair := goodIn_r _ [87, 12, 13, 88, 14, 89, 90, 91, 92, 72, 73, 74, 15, 16, 9, 17, 93, 94, 21, 95, 96, 48, 49, 50, 23, 97, 56, 57, 58, 31, 30, 29, 59, 60, 61, 62, 47, 98, 64, 65, 66, 188, 189, 190, 191, 192, 193, 194, 195, 196, 197, 198, 199, 200, 201, 202, 203, 204, 205, 206, 207, 208, 209] (by decide +kernel) (by decide +kernel)
set_option maxRecDepth 20000 in
theorem gL_tries_X5_pair : GoodIn wsL_tries (wsV RL 38 RX5 yX5_pair wsX5_pair) := goodIn_app (goodIn_of _ (by decide +kernel)) ggL_tries_X5_pair
set_option maxRecDepth 20000 in
theorem ggL_tries_X5_pass : GoodIn wsL_tries wsX5_pass := goodIn_r _ [102, 103, 12, 104, 105, 106, 107, 108, 109, 110, 111, 112, 113, 19, 20, 21, 22, 23, 24, 25, 26, 27, 28, 29, 30, 31, 32, 33, 34, 114, 115, 116, 117, 118, 119, 36, 37, 38, 39, 40, 41, 42, 43, 44, 45, 46, 47, 48, 49, 50, 51, 52, 53, 54, 55, 56, 57, 58, 59, 60, 61, 62, 63, 64, 65, 66, 67, 68, 69, 70, 71, 72, 73, 74, 75, 76, 77, 78, 79, 120, 121, 122, 9, 123, 124, 125, 126, 127, 128, 129, 130, 131, 132, 133, 134, 135, 136, 188, 189, 190, 191, 192, 193, 194, 195, 196, 197, 198, 199, 200, 201, 202, 203, 204, 205, 206, 207, 208, 209, 210, 211] (by decide +kernel) (by decide +kernel)
set_option maxRecDepth 20000 in
theorem gL_tries_X5_pass : GoodIn wsL_tries (wsV RL 35 RX5 yX5_pass wsX5_pass) := goodIn_app (goodIn_of _ (by decide +kernel)) ggL_tries_X5_pass
set_option maxRecDepth 20000 in
theorem ggL_tries_X5_undo : GoodIn wsL_tries wsX5_undo := goodIn_r _ [140, 124, 12, 141, 142, 143, 128, 144, 130, 131, 136, 105, 106, 107, 108, 109, 110, 111, 112, 113, 19, 20, 21, 22, 23, 24, 25, 26, 27, 28, 29, 30, 31, 32, 33, 34, 188, 189, 190, 191, 192, 193, 194, 195, 196, 197, 210, 211, 198, 199, 200, 201, 202, 203, 204, 205, 206, 207, 208, 209] (by decide +kernel) (by decide +kernel)
set_option maxRecDepth 20000 in
theorem gL_tries_X5_undo : GoodIn wsL_tries (wsV RL 76 RX5 yX5_undo wsX5_undo) := goodIn_app (goodIn_of _ (by decide +kernel)) ggL_tries_X5_undo
set_option maxRecDepth 20000 in
theorem ggL_tries_X5_leastVoltage : GoodIn wsL_tries wsX5_leastVoltage := goodIn_r _ [148, 12, 13, 14, 15, 16, 9, 17, 149, 150, 151, 21, 152, 23, 59, 60, 61, 62, 63, 64, 65, 66, 188, 189, 190, 191, 192, 193, 194, 195, 196, 197, 198, 199, 200, 201, 202, 203, 204, 205, 206, 207, 208, 209] (by decide +kernel) (by decide +kernel)
set_option maxRecDepth 20000 in
theorem gL_tries_X5_leastVoltage : GoodIn wsL_tries (wsV RL 79 RX5 yX5_leastVoltage wsX5_leastVoltage) := goodIn_app (goodIn_of _ (by decide +kernel)) ggL_tries_X5_leastVoltage
set_option maxRecDepth 20000 in
theorem ggL_tries_X5_drawingVoltage : GoodIn wsL_tries wsX5_drawingVoltage := goodIn_r _ [156, 12, 13, 15, 16, 9, 17, 157, 158, 159, 21, 160, 28, 161, 150, 151, 152, 23, 59, 60, 61, 62, 63, 64, 65, 66, 188, 189, 190, 191, 192, 193, 194, 195, 196, 197, 198, 199, 200, 201, 202, 203, 204, 205, 206, 207, 208, 209] (by decide +kernel) (by decide +kernel)
set_option maxRecDepth 20000 in
theorem gL_tries_X5_drawingVoltage : GoodIn wsL_tries (wsV RL 82 RX5 yX5_drawingVoltage wsX5_drawingVoltage) := goodIn_app (goodIn_of _ (by decide +kernel)) ggL_tries_X5_drawingVoltage
set_option maxRecDepth 20000 in
theorem ggL_tries_L_moves : GoodIn wsL_tries wsL_moves := goodIn_r _ [164, 165, 166, 167, 9, 168, 103, 12, 104, 105, 106, 107, 108, 109, 110, 111, 112, 113, 19, 20, 21, 22, 23, 24, 25, 26, 27, 28, 29, 30, 31, 32, 33, 34, 169, 170, 171, 172, 173, 174, 175, 16, 17, 176, 76, 77, 78, 79, 47, 48, 49, 50, 120, 121, 122, 123, 124, 125, 126, 127, 128, 129, 130, 131, 132, 133, 134, 135, 136, 177, 178, 179, 180, 13, 15, 181, 182, 183, 184, 71, 72, 73, 74, 51, 52, 53, 54, 55, 56, 57, 58, 59, 60, 61, 62, 63, 64, 65, 66, 67, 68, 69, 70, 137, 138, 139, 140, 141, 142, 143, 144, 188, 189, 190, 191, 192, 193, 194, 195, 196, 197, 198, 199, 200, 201, 202, 203, 204, 205, 206, 207, 208, 209, 210, 211] (by decide +kernel) (by decide +kernel)
set_option maxRecDepth 20000 in
theorem gL_tries_L_moves : GoodIn wsL_tries (va_wsS RL 85 yL_moves wsL_moves) := goodIn_app (goodIn_of _ (by decide +kernel)) ggL_tries_L_moves
set_option maxRecDepth 20000 in
theorem ggL_tries_L_draws : GoodIn wsL_tries wsL_draws := goodIn_r _ [187, 165, 166, 167, 9, 168, 103, 12, 104, 105, 106, 107, 108, 109, 110, 111, 112, 113, 19, 20, 21, 22, 23, 24, 25, 26, 27, 28, 29, 30, 31, 32, 33, 34, 169, 170, 171, 172, 173, 174, 175, 16, 17, 176, 76, 77, 78, 79, 47, 48, 49, 50, 120, 121, 122, 123, 124, 125, 126, 127, 128, 129, 130, 131, 132, 133, 134, 135, 136, 6, 7, 8, 10, 11, 13, 14, 15, 18, 35, 36, 37, 38, 39, 40, 41, 42, 43, 44, 45, 46, 51, 52, 53, 54, 55, 56, 57, 58, 59, 60, 61, 62, 63, 64, 65, 66, 67, 68, 69, 70, 71, 72, 73, 74, 75, 137, 138, 139, 140, 141, 142, 143, 144, 188, 189, 190, 191, 192, 193, 194, 195, 196, 197, 198, 199, 200, 201, 202, 203, 204, 205, 206, 207, 208, 209, 210, 211] (by decide +kernel) (by decide +kernel)
set_option maxRecDepth 20000 in
theorem gL_tries_L_draws : GoodIn wsL_tries (va_wsS RL 89 yL_draws wsL_draws) := goodIn_app (goodIn_of _ (by decide +kernel)) ggL_tries_L_draws
set_option maxRecDepth 20000 in
theorem ggL_moves_X5_turnOn : GoodIn wsL_moves wsX5_turnOn := goodIn_r _ [5, 6, 7, 8, 9, 10, 11, 12, 13, 14, 15, 16, 17, 18, 19, 20, 21, 22, 23, 24, 25, 26, 27, 28, 29, 30, 31, 32, 33, 34, 35, 36, 37, 38, 39, 40, 41, 4, 42, 43, 44, 45, 46, 47, 48, 49, 50, 51, 52, 53, 54, 55, 56, 57, 58, 59, 60, 61, 62, 63, 64, 65, 66, 67, 68, 111, 112, 113, 114, 115, 116, 117, 118, 119, 120, 121, 122, 123, 124, 125, 126, 127, 128, 129, 130, 131, 132, 133, 134] (by decide +kernel) (by decide +kernel)
set_option maxRecDepth 20000 in
theorem gL_moves_X5_turnOn : GoodIn wsL_moves (wsV RL 21 RX5 yX5_turnOn wsX5_turnOn) := goodIn_app (goodIn_of _ (by decide +kernel)) ggL_moves_X5_turnOn
set_option maxRecDepth 20000 in
theorem ggL_moves_X5_reason : GoodIn wsL_moves wsX5_reason := goodIn_r _ [72, 7, 73, 74, 41, 4, 42, 75, 76, 77, 20, 78, 27, 79, 80, 81, 82, 22, 83, 84, 85, 86, 87, 88, 89, 90, 30, 29, 28, 91, 92, 93, 94, 48, 49, 50, 51, 95, 96, 97, 98, 99, 100, 101, 102, 111, 112, 113, 114, 115, 116, 117, 118, 119, 120, 121, 122, 123, 124, 125, 126, 127, 128, 129, 130, 131, 132] (by decide +kernel) (by decide +kernel)
set_option maxRecDepth 20000 in
theorem gL_moves_X5_reason : GoodIn wsL_moves (wsV RL 54 RX5 yX5_reason wsX5_reason) := goodIn_app (goodIn_of _ (by decide +kernel)) ggL_moves_X5_reason
set_option maxRecDepth 20000 in
theorem ggL_moves_X5_undo : GoodIn wsL_moves wsX5_undo := goodIn_r _ [106, 56, 7, 107, 108, 109, 60, 110, 62, 63, 68, 9, 10, 11, 12, 13, 14, 15, 16, 17, 18, 19, 20, 21, 22, 23, 24, 25, 26, 27, 28, 29, 30, 31, 32, 33, 111, 112, 113, 114, 115, 116, 117, 118, 119, 120, 133, 134, 121, 122, 123, 124, 125, 126, 127, 128, 129, 130, 131, 132] (by decide +kernel) (by decide +kernel)
set_option maxRecDepth 20000 in
theorem gL_moves_X5_undo : GoodIn wsL_moves (wsV RL 76 RX5 yX5_undo wsX5_undo) := goodIn_app (goodIn_of _ (by decide +kernel)) ggL_moves_X5_undo
set_option maxRecDepth 20000 in
theorem ggL_draws_X5_turnOn : GoodIn wsL_draws wsX5_turnOn := goodIn_r _ [5, 6, 7, 8, 9, 10, 11, 12, 13, 14, 15, 16, 17, 18, 19, 20, 21, 22, 23, 24, 25, 26, 27, 28, 29, 30, 31, 32, 33, 34, 35, 36, 37, 38, 39, 40, 41, 4, 42, 43, 44, 45, 46, 47, 48, 49, 50, 51, 52, 53, 54, 55, 56, 57, 58, 59, 60, 61, 62, 63, 64, 65, 66, 67, 68, 123, 124, 125, 126, 127, 128, 129, 130, 131, 132, 133, 134, 135, 136, 137, 138, 139, 140, 141, 142, 143, 144, 145, 146] (by decide +kernel) (by decide +kernel)
set_option maxRecDepth 20000 in
theorem gL_draws_X5_turnOn : GoodIn wsL_draws (wsV RL 21 RX5 yX5_turnOn wsX5_turnOn) := goodIn_app (goodIn_of _ (by decide +kernel)) ggL_draws_X5_turnOn
set_option maxRecDepth 20000 in
theorem ggL_draws_X5_depthIn : GoodIn wsL_draws wsX5_depthIn := goodIn_r _ [72, 73, 7, 74, 75, 76, 41, 4, 42, 77, 18, 19, 20, 21, 22, 23, 24, 25, 26, 27, 28, 29, 30, 31, 32, 33, 78, 79, 80, 81, 82, 83, 84, 85, 86, 87, 88, 89, 48, 49, 50, 51, 90, 91, 92, 93, 94, 95, 96, 97, 98, 99, 100, 101, 102, 103, 104, 105, 106, 107, 108, 109, 110, 111, 112, 113, 114, 44, 45, 46, 47, 123, 124, 125, 126, 127, 128, 129, 130, 131, 132, 133, 134, 135, 136, 137, 138, 139, 140, 141, 142, 143, 144] (by decide +kernel) (by decide +kernel)
set_option maxRecDepth 20000 in
theorem gL_draws_X5_depthIn : GoodIn wsL_draws (wsV RL 70 RX5 yX5_depthIn wsX5_depthIn) := goodIn_app (goodIn_of _ (by decide +kernel)) ggL_draws_X5_depthIn
set_option maxRecDepth 20000 in
theorem ggL_draws_X5_undo : GoodIn wsL_draws wsX5_undo := goodIn_r _ [118, 56, 7, 119, 120, 121, 60, 122, 62, 63, 68, 9, 10, 11, 12, 13, 14, 15, 16, 17, 18, 19, 20, 21, 22, 23, 24, 25, 26, 27, 28, 29, 30, 31, 32, 33, 123, 124, 125, 126, 127, 128, 129, 130, 131, 132, 145, 146, 133, 134, 135, 136, 137, 138, 139, 140, 141, 142, 143, 144] (by decide +kernel) (by decide +kernel)
set_option maxRecDepth 20000 in
theorem gL_draws_X5_undo : GoodIn wsL_draws (wsV RL 76 RX5 yX5_undo wsX5_undo) := goodIn_app (goodIn_of _ (by decide +kernel)) ggL_draws_X5_undo
