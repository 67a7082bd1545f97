set_option maxRecDepth 20000 in
theorem ggL_act_L_low : GoodIn wsL_act wsL_low := goodIn_r _ [4, 5] (by decide +kernel) (by decide +kernel)
set_option maxRecDepth 20000 in
theorem gL_act_L_low : GoodIn wsL_act (va_wsS RL 9 yL_low wsL_low) := goodIn_app (goodIn_of _ (by decide +kernel)) ggL_act_L_low
set_option maxRecDepth 20000 in
theorem ggL_act_X5_set : GoodIn wsL_act wsX5_set := goodIn_r _ [10, 11, 12, 13, 14, 15, 16, 17, 18, 19, 20, 21, 22, 23, 24, 25, 26, 27, 28, 29, 30, 31, 32, 33, 34, 35, 36, 37, 38, 39, 40, 41, 42, 43, 44, 9, 45, 46, 47, 48, 49, 50, 51, 52, 53, 54, 55, 56, 57, 58, 59, 60, 61, 62, 63, 64, 65, 66, 67, 68, 69, 70, 71, 72, 73, 74, 75, 76, 77, 78, 79, 80, 231, 232, 233, 234, 235, 236, 237, 238, 239, 240, 241, 242, 243, 244, 245, 246, 247, 248, 249, 250, 251, 252, 253, 254] (by decide +kernel) (by decide +kernel)
set_option maxRecDepth 20000 in
theorem gL_act_X5_set : GoodIn wsL_act (wsV RL 15 RX5 yX5_set wsX5_set) := goodIn_app (goodIn_of _ (by decide +kernel)) ggL_act_X5_set
set_option maxRecDepth 20000 in
theorem ggL_act_X5_turnOn : GoodIn wsL_act wsX5_turnOn := goodIn_r _ [84, 11, 12, 13, 14, 15, 16, 17, 18, 19, 20, 21, 22, 23, 24, 25, 26, 27, 28, 29, 30, 31, 32, 33, 34, 35, 36, 37, 38, 85, 86, 87, 88, 89, 90, 91, 44, 9, 45, 55, 56, 57, 58, 59, 60, 61, 62, 63, 64, 65, 66, 67, 68, 69, 70, 71, 72, 73, 74, 75, 76, 77, 78, 79, 80, 231, 232, 233, 234, 235, 236, 237, 238, 239, 240, 241, 242, 243, 244, 245, 246, 247, 248, 249, 250, 251, 252, 253, 254] (by decide +kernel) (by decide +kernel)
set_option maxRecDepth 20000 in
theorem gL_act_X5_turnOn : GoodIn wsL_act (wsV RL 21 RX5 yX5_turnOn wsX5_turnOn) := goodIn_app (goodIn_of _ (by decide +kernel)) ggL_act_X5_turnOn
set_option maxRecDepth 20000 in
theorem ggL_act_X5_turnOff : GoodIn wsL_act wsX5_turnOff := goodIn_r _ [95, 11, 12, 13, 14, 15, 16, 17, 18, 19, 20, 21, 22, 23, 24, 25, 26, 27, 28, 29, 30, 31, 32, 33, 34, 35, 36, 37, 38, 96, 97, 98, 99, 89, 91, 44, 9, 45, 64, 65, 66, 67, 68, 69, 70, 71, 72, 73, 74, 75, 76, 77, 78, 79, 80, 231, 232, 233, 234, 235, 236, 237, 238, 239, 240, 241, 242, 243, 244, 245, 246, 247, 248, 249, 250, 251, 252, 253, 254] (by decide +kernel) (by decide +kernel)
set_option maxRecDepth 20000 in
theorem gL_act_X5_turnOff : GoodIn wsL_act (wsV RL 24 RX5 yX5_turnOff wsX5_turnOff) := goodIn_app (goodIn_of _ (by decide +kernel)) ggL_act_X5_turnOff
set_option maxRecDepth 20000 in
theorem ggL_act_X5_put : GoodIn wsL_act wsX5_put := goodIn_r _ [103, 11, 12, 13, 14, 15, 16, 17, 18, 19, 20, 21, 22, 23, 24, 25, 26, 27, 28, 29, 30, 31, 32, 33, 34, 35, 36, 37, 38, 104, 105, 106, 107, 108, 44, 9, 45, 109, 110, 55, 56, 57, 58, 59, 60, 61, 62, 63, 64, 65, 66, 67, 68, 69, 70, 71, 72, 73, 74, 75, 76, 77, 78, 79, 80, 231, 232, 233, 234, 235, 236, 237, 238, 239, 240, 241, 242, 243, 244, 245, 246, 247, 248, 249, 250, 251, 252, 253, 254] (by decide +kernel) (by decide +kernel)
set_option maxRecDepth 20000 in
theorem gL_act_X5_put : GoodIn wsL_act (wsV RL 28 RX5 yX5_put wsX5_put) := goodIn_app (goodIn_of _ (by decide +kernel)) ggL_act_X5_put
set_option maxRecDepth 20000 in
theorem ggL_act_L_couples : GoodIn wsL_act wsL_couples := goodIn_r _ [113, 114, 115, 116, 9, 117, 12, 118, 119, 120, 121, 122, 123, 124, 125, 126, 127, 128, 44, 45, 129, 47, 25, 48, 130, 61, 62, 63, 27, 131, 132, 133, 134, 35, 34, 33, 135, 136, 137, 138, 60, 139, 140, 141, 142, 143, 144, 145, 146, 147, 148, 149, 150, 151, 152, 153, 154, 155, 32, 156, 157, 158, 159, 160, 161, 162, 68, 163, 164, 165, 166, 167, 168, 169, 170, 171, 172, 173, 174, 175, 176, 177, 178, 179, 180, 181, 182, 183, 184, 185, 186, 187, 188, 189, 190, 191, 192, 11, 13, 14, 15, 16, 17, 18, 19, 20, 21, 22, 23, 24, 26, 28, 29, 30, 31, 36, 37, 38, 193, 194, 195, 196, 89, 91, 108, 197, 198, 199, 200, 201, 202, 203, 204, 205, 206, 207, 208, 209, 210, 211, 64, 65, 66, 67, 69, 70, 71, 72, 73, 74, 75, 76, 77, 78, 79, 80, 231, 232, 233, 234, 235, 236, 237, 238, 239, 240, 241, 242, 243, 244, 245, 246, 247, 248, 249, 250, 251, 252, 253, 254, 255, 256, 257, 258, 259, 260, 261, 262, 263, 264] (by decide +kernel) (by decide +kernel)
set_option maxRecDepth 20000 in
theorem gL_act_L_couples : GoodIn wsL_act (va_wsS RL 31 yL_couples wsL_couples) := goodIn_app (goodIn_of _ (by decide +kernel)) ggL_act_L_couples
set_option maxRecDepth 20000 in
theorem ggL_act_X5_pass : GoodIn wsL_act wsX5_pass := goodIn_r _ [215, 11, 12, 13, 14, 15, 16, 17, 18, 19, 20, 21, 22, 23, 24, 25, 26, 27, 28, 29, 30, 31, 32, 33, 34, 35, 36, 37, 38, 216, 217, 218, 219, 220, 221, 222, 223, 224, 225, 226, 227, 228, 229, 153, 154, 155, 60, 61, 62, 63, 179, 180, 181, 182, 183, 132, 133, 134, 135, 136, 137, 138, 184, 140, 141, 142, 185, 186, 187, 188, 178, 125, 126, 127, 230, 56, 57, 58, 59, 64, 65, 66, 9, 67, 68, 69, 70, 71, 72, 73, 74, 75, 76, 77, 78, 79, 80, 231, 232, 233, 234, 235, 236, 237, 238, 239, 240, 241, 242, 243, 244, 245, 246, 247, 248, 249, 250, 251, 252, 253, 254] (by decide +kernel) (by decide +kernel)
set_option maxRecDepth 20000 in
theorem gL_act_X5_pass : GoodIn wsL_act (wsV RL 35 RX5 yX5_pass wsX5_pass) := goodIn_app (goodIn_of _ (by decide +kernel)) ggL_act_X5_pass
set_option maxRecDepth 20000 in
theorem ggL_couples_X5_pair : GoodIn wsL_couples wsX5_pair := goodIn_r _ [5, 6, 7, 8, 9, 10, 11, 12, 13, 14, 15, 16, 17, 18, 4, 19, 20, 21, 22, 23, 24, 25, 26, 27, 28, 29, 30, 31, 32, 33, 34, 35, 36, 37, 38, 39, 40, 41, 42, 43, 44, 156, 157, 158, 159, 160, 161, 162, 163, 164, 165, 166, 167, 168, 169, 170, 171, 172, 173, 174, 175, 176, 177] (by decide +kernel) (by decide +kernel)
set_option maxRecDepth 20000 in
theorem gL_couples_X5_pair : GoodIn wsL_couples (wsV RL 38 RX5 yX5_pair wsX5_pair) := goodIn_app (goodIn_of _ (by decide +kernel)) ggL_couples_X5_pair
set_option maxRecDepth 20000 in
theorem ggL_couples_X5_book : GoodIn wsL_couples wsX5_book := goodIn_r _ [48, 49, 6, 7, 50, 51, 52, 53, 17, 18, 4, 19, 54, 55, 56, 22, 57, 33, 34, 35, 58, 40, 25, 26, 27, 28, 156, 157, 158, 159, 160, 161, 162, 163, 164, 165, 166, 167, 168, 169, 170, 171, 172, 173, 174, 175, 176, 177] (by decide +kernel) (by decide +kernel)
set_option maxRecDepth 20000 in
theorem gL_couples_X5_book : GoodIn wsL_couples (wsV RL 41 RX5 yX5_book wsX5_book) := goodIn_app (goodIn_of _ (by decide +kernel)) ggL_couples_X5_book
set_option maxRecDepth 20000 in
theorem ggL_couples_X5_count : GoodIn wsL_couples wsX5_count := goodIn_r _ [62, 6, 63, 64, 65, 66, 67, 68, 69, 70, 71, 72, 73, 4, 74, 7, 75, 76, 77, 12, 10, 9, 78, 79, 80, 22, 81, 58, 82, 14, 15, 16, 28, 83, 84, 85, 86, 87, 30, 31, 32, 33, 34, 35, 36, 37, 38, 39, 40, 25, 26, 27, 88, 42, 43, 44, 89, 90, 91, 92, 24, 156, 157, 158, 159, 160, 161, 162, 163, 164, 165, 166, 167, 168, 169, 178, 179, 180, 181, 182, 183, 184, 185, 186, 187, 188, 189, 170, 171, 172, 173, 174, 175, 176, 177] (by decide +kernel) (by decide +kernel)
set_option maxRecDepth 20000 in
theorem gL_couples_X5_count : GoodIn wsL_couples (wsV RL 45 RX5 yX5_count wsX5_count) := goodIn_app (goodIn_of _ (by decide +kernel)) ggL_couples_X5_count
set_option maxRecDepth 20000 in
theorem ggL_couples_X5_couple : GoodIn wsL_couples wsX5_couple := goodIn_r _ [96, 97, 6, 98, 99, 100, 101, 102, 103, 104, 105, 106, 107, 108, 109, 22, 110, 28, 111, 112, 113, 114, 58, 35, 34, 33, 115, 116, 117, 118, 119, 120, 121, 122, 123, 124, 125, 18, 4, 19, 126, 25, 26, 27, 127, 128, 129, 130, 131, 132, 133, 134, 135, 55, 56, 57, 40, 136, 137, 138, 139, 140, 141, 142, 143, 66, 144, 145, 146, 147, 148, 149, 150, 151, 152, 153, 154, 155, 156, 157, 158, 159, 160, 161, 162, 163, 164, 165, 166, 167, 168, 169, 170, 171, 172, 173, 174, 175, 176, 177, 178, 179] (by decide +kernel) (by decide +kernel)
set_option maxRecDepth 20000 in
theorem gL_couples_X5_couple : GoodIn wsL_couples (wsV RL 48 RX5 yX5_couple wsX5_couple) := goodIn_app (goodIn_of _ (by decide +kernel)) ggL_couples_X5_couple
set_option maxRecDepth 20000 in
theorem ggL_isPair_X5_pair : GoodIn wsL_isPair wsX5_pair := goodIn_r _ [5, 6, 7, 8, 9, 10, 11, 12, 13, 14, 15, 16, 17, 18, 4, 19, 20, 21, 22, 23, 24, 25, 26, 27, 28, 29, 30, 31, 32, 33, 34, 35, 36, 37, 38, 39, 40, 41, 42, 43, 44, 90, 91, 92, 93, 94, 95, 96, 97, 98, 99, 100, 101, 102, 103, 104, 105, 106, 107, 108, 109, 110, 111] (by decide +kernel) (by decide +kernel)
set_option maxRecDepth 20000 in
theorem gL_isPair_X5_pair : GoodIn wsL_isPair (wsV RL 38 RX5 yX5_pair wsX5_pair) := goodIn_app (goodIn_of _ (by decide +kernel)) ggL_isPair_X5_pair
set_option maxRecDepth 20000 in
theorem ggL_isPair_L_size : GoodIn wsL_isPair wsL_size := goodIn_r _ [48] (by decide +kernel) (by decide +kernel)
set_option maxRecDepth 20000 in
theorem gL_isPair_L_size : GoodIn wsL_isPair (va_wsS RL 51 yL_size wsL_size) := goodIn_app (goodIn_of _ (by decide +kernel)) ggL_isPair_L_size
set_option maxRecDepth 20000 in
theorem ggL_isPair_X5_book : GoodIn wsL_isPair wsX5_book := goodIn_r _ [52, 53, 6, 7, 54, 55, 56, 57, 17, 18, 4, 19, 58, 59, 60, 22, 61, 33, 34, 35, 62, 40, 25, 26, 27, 28, 90, 91, 92, 93, 94, 95, 96, 97, 98, 99, 100, 101, 102, 103, 104, 105, 106, 107, 108, 109, 110, 111] (by decide +kernel) (by decide +kernel)
set_option maxRecDepth 20000 in
theorem gL_isPair_X5_book : GoodIn wsL_isPair (wsV RL 41 RX5 yX5_book wsX5_book) := goodIn_app (goodIn_of _ (by decide +kernel)) ggL_isPair_X5_book
set_option maxRecDepth 20000 in
theorem ggL_isPair_X5_reason : GoodIn wsL_isPair wsX5_reason := goodIn_r _ [66, 6, 7, 17, 18, 4, 19, 67, 68, 69, 22, 70, 62, 71, 14, 15, 16, 28, 72, 73, 74, 75, 76, 30, 31, 32, 33, 34, 35, 36, 37, 38, 39, 40, 25, 26, 27, 77, 42, 43, 44, 78, 79, 80, 81, 90, 91, 92, 93, 94, 95, 96, 97, 98, 99, 100, 101, 102, 103, 104, 105, 106, 107, 108, 109, 110, 111] (by decide +kernel) (by decide +kernel)
set_option maxRecDepth 20000 in
theorem gL_isPair_X5_reason : GoodIn wsL_isPair (wsV RL 54 RX5 yX5_reason wsX5_reason) := goodIn_app (goodIn_of _ (by decide +kernel)) ggL_isPair_X5_reason
set_option maxRecDepth 20000 in
theorem ggL_isPair_X5_force : GoodIn wsL_isPair wsX5_force := goodIn_r _ [85, 6, 7, 13, 14, 15, 16, 17, 18, 4, 19, 86, 87, 88, 89, 73, 74, 22, 75, 76, 30, 31, 32, 33, 34, 28, 35, 36, 37, 38, 39, 40, 25, 26, 27, 77, 42, 43, 44, 90, 91, 92, 93, 94, 95, 96, 97, 98, 99, 100, 101, 102, 103, 104, 105, 106, 107, 108, 109, 110, 111] (by decide +kernel) (by decide +kernel)
set_option maxRecDepth 20000 in
theorem gL_isPair_X5_force : GoodIn wsL_isPair (wsV RL 57 RX5 yX5_force wsX5_force) := goodIn_app (goodIn_of _ (by decide +kernel)) ggL_isPair_X5_force
set_option maxRecDepth 20000 in
theorem ggL_holds_X5_pair : GoodIn wsL_holds wsX5_pair := goodIn_r _ [6, 7, 8, 9, 10, 11, 12, 13, 14, 15, 16, 17, 18, 19, 5, 20, 21, 22, 23, 24, 25, 26, 27, 28, 29, 30, 31, 32, 33, 34, 35, 36, 37, 38, 39, 40, 41, 42, 43, 44, 45, 117, 118, 119, 120, 121, 122, 123, 124, 125, 126, 127, 128, 129, 130, 131, 132, 133, 134, 135, 136, 137, 138] (by decide +kernel) (by decide +kernel)
set_option maxRecDepth 20000 in
theorem gL_holds_X5_pair : GoodIn wsL_holds (wsV RL 38 RX5 yX5_pair wsX5_pair) := goodIn_app (goodIn_of _ (by decide +kernel)) ggL_holds_X5_pair
set_option maxRecDepth 20000 in
theorem ggL_holds_X5_book : GoodIn wsL_holds wsX5_book := goodIn_r _ [49, 50, 7, 8, 51, 52, 53, 54, 18, 19, 5, 20, 55, 56, 57, 23, 58, 34, 35, 36, 59, 41, 26, 27, 28, 29, 117, 118, 119, 120, 121, 122, 123, 124, 125, 126, 127, 128, 129, 130, 131, 132, 133, 134, 135, 136, 137, 138] (by decide +kernel) (by decide +kernel)
set_option maxRecDepth 20000 in
theorem gL_holds_X5_book : GoodIn wsL_holds (wsV RL 41 RX5 yX5_book wsX5_book) := goodIn_app (goodIn_of _ (by decide +kernel)) ggL_holds_X5_book
set_option maxRecDepth 20000 in
theorem ggL_holds_L_isPair : GoodIn wsL_holds wsL_isPair := goodIn_r _ [63, 2, 3, 4, 5, 6, 7, 8, 9, 10, 11, 12, 13, 14, 15, 16, 17, 18, 19, 20, 21, 22, 23, 24, 25, 26, 27, 28, 29, 30, 31, 32, 33, 34, 35, 36, 37, 38, 39, 40, 41, 42, 43, 44, 45, 64, 65, 62, 66, 46, 47, 48, 49, 50, 51, 52, 53, 54, 55, 56, 57, 58, 59, 67, 68, 69, 70, 71, 72, 73, 74, 75, 76, 77, 78, 79, 80, 81, 82, 83, 84, 85, 86, 87, 88, 89, 90, 91, 92, 93, 117, 118, 119, 120, 121, 122, 123, 124, 125, 126, 127, 128, 129, 130, 131, 132, 133, 134, 135, 136, 137, 138] (by decide +kernel) (by decide +kernel)
set_option maxRecDepth 20000 in
theorem gL_holds_L_isPair : GoodIn wsL_holds (va_wsS RL 62 yL_isPair wsL_isPair) := goodIn_app (goodIn_of _ (by decide +kernel)) ggL_holds_L_isPair
