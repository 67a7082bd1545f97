set_option maxRecDepth 20000 in
theorem ggL_law_X5_init : GoodIn wsL_law wsX5_init := goodIn_r _ [8, 9, 10, 11, 12, 13, 14, 15, 16, 17, 18, 19, 20, 21, 22, 23, 24, 25, 26, 27, 28, 29, 30, 31, 32, 33, 34, 35, 36, 37, 38, 39, 40, 41, 42, 43, 44, 45, 46, 47, 48, 49, 50, 51, 52, 53, 54, 55, 56, 57, 58, 59, 60, 61, 62, 63, 736, 737, 738, 739, 704, 705, 706, 707, 708, 709, 710, 711, 712, 713, 740, 741, 742, 743, 744, 745, 746, 747, 748, 749, 750, 751, 752, 753, 754, 755, 756, 757, 758, 759] (by decide +kernel) (by decide +kernel)
set_option maxRecDepth 20000 in
theorem gL_law_X5_init : GoodIn wsL_law (wsX5_init) := ggL_law_X5_init
set_option maxRecDepth 20000 in
theorem ggL_law_X6_init : GoodIn wsL_law wsX6_init := goodIn_r _ [66, 67, 10, 11, 39, 68, 69, 70, 71, 72, 73, 74, 75, 76, 77, 78, 79, 80, 81, 5, 82, 714, 715, 716, 717, 718, 719, 720, 721, 722, 723, 724, 725, 726, 727, 728, 729, 730, 731, 732, 733, 734, 735] (by decide +kernel) (by decide +kernel)
set_option maxRecDepth 20000 in
theorem gL_law_X6_init : GoodIn wsL_law (wsX6_init) := ggL_law_X6_init
set_option maxRecDepth 20000 in
theorem ggL_law_X5_set : GoodIn wsL_law wsX5_set := goodIn_r _ [86, 16, 15, 87, 88, 89, 14, 90, 35, 91, 92, 93, 94, 95, 96, 24, 97, 40, 98, 99, 100, 101, 102, 103, 41, 104, 105, 106, 107, 108, 109, 110, 111, 112, 113, 2, 114, 115, 116, 117, 118, 119, 120, 121, 122, 123, 124, 125, 126, 127, 128, 129, 130, 131, 132, 133, 134, 135, 136, 21, 137, 138, 139, 20, 140, 141, 47, 142, 143, 144, 145, 146, 704, 705, 706, 707, 708, 709, 710, 711, 712, 713, 736, 737, 738, 739, 742, 743, 744, 745, 746, 747, 748, 749, 740, 741] (by decide +kernel) (by decide +kernel)
set_option maxRecDepth 20000 in
theorem gL_law_X5_set : GoodIn wsL_law (wsV RL 13 RX5 yX5_set wsX5_set) := goodIn_app (goodIn_of _ (by decide +kernel)) ggL_law_X5_set
set_option maxRecDepth 20000 in
theorem ggL_law_X6_set : GoodIn wsL_law wsX6_set := goodIn_r _ [150, 151, 152, 5, 153, 154, 155, 156, 157, 158, 159, 160, 71, 68, 72, 70, 161, 162, 163, 164, 165, 166, 167, 168, 169, 170, 171, 172, 173, 174, 80, 81, 82, 175, 176, 177, 178, 179, 180, 181, 182, 183, 184, 185, 186, 187, 188, 189, 190, 191, 192, 193, 194, 195, 196, 197, 198, 199, 200, 75, 76, 714, 715, 716, 717, 718, 719, 720, 721, 722, 723, 724, 725, 726, 727, 728, 729, 730, 731, 732, 733, 734, 735] (by decide +kernel) (by decide +kernel)
set_option maxRecDepth 20000 in
theorem gL_law_X6_set : GoodIn wsL_law (wsV RL 17 RX6 yX6_set wsX6_set) := goodIn_app (goodIn_of _ (by decide +kernel)) ggL_law_X6_set
set_option maxRecDepth 20000 in
theorem ggL_law_X5_turnOn : GoodIn wsL_law wsX5_turnOn := goodIn_r _ [204, 16, 15, 87, 88, 89, 14, 90, 35, 91, 92, 93, 94, 95, 96, 24, 97, 40, 98, 99, 100, 101, 102, 103, 41, 104, 105, 106, 107, 205, 206, 207, 208, 209, 210, 211, 113, 2, 114, 124, 125, 126, 127, 128, 129, 130, 131, 132, 133, 134, 135, 136, 21, 137, 138, 139, 20, 140, 141, 47, 142, 143, 144, 145, 146, 704, 705, 706, 707, 708, 709, 710, 711, 712, 713, 736, 737, 738, 739, 742, 743, 744, 745, 746, 747, 748, 749, 740, 741] (by decide +kernel) (by decide +kernel)
set_option maxRecDepth 20000 in
theorem gL_law_X5_turnOn : GoodIn wsL_law (wsV RL 18 RX5 yX5_turnOn wsX5_turnOn) := goodIn_app (goodIn_of _ (by decide +kernel)) ggL_law_X5_turnOn
set_option maxRecDepth 20000 in
theorem ggL_law_X6_turnOn : GoodIn wsL_law wsX6_turnOn := goodIn_r _ [215, 151, 152, 5, 153, 154, 155, 156, 157, 158, 159, 160, 71, 68, 72, 70, 216, 217, 218, 219, 180, 181, 182, 183, 171, 172, 173, 174, 80, 81, 82, 175, 176, 177, 178, 179, 184, 185, 186, 187, 188, 189, 190, 191, 192, 193, 194, 195, 196, 197, 198, 199, 200, 75, 76, 714, 715, 716, 717, 718, 719, 720, 721, 722, 723, 724, 725, 726, 727, 728, 729, 730, 731, 732, 733, 734, 735] (by decide +kernel) (by decide +kernel)
set_option maxRecDepth 20000 in
theorem gL_law_X6_turnOn : GoodIn wsL_law (wsV RL 22 RX6 yX6_turnOn wsX6_turnOn) := goodIn_app (goodIn_of _ (by decide +kernel)) ggL_law_X6_turnOn
set_option maxRecDepth 20000 in
theorem ggL_law_X5_turnOff : GoodIn wsL_law wsX5_turnOff := goodIn_r _ [223, 16, 15, 87, 88, 89, 14, 90, 35, 91, 92, 93, 94, 95, 96, 24, 97, 40, 98, 99, 100, 101, 102, 103, 41, 104, 105, 106, 107, 224, 225, 226, 227, 209, 211, 113, 2, 114, 133, 134, 135, 136, 21, 137, 138, 139, 20, 140, 141, 47, 142, 143, 144, 145, 146, 704, 705, 706, 707, 708, 709, 710, 711, 712, 713, 736, 737, 738, 739, 742, 743, 744, 745, 746, 747, 748, 749, 740, 741] (by decide +kernel) (by decide +kernel)
set_option maxRecDepth 20000 in
theorem gL_law_X5_turnOff : GoodIn wsL_law (wsV RL 23 RX5 yX5_turnOff wsX5_turnOff) := goodIn_app (goodIn_of _ (by decide +kernel)) ggL_law_X5_turnOff
set_option maxRecDepth 20000 in
theorem ggL_law_X6_turnOff : GoodIn wsL_law wsX6_turnOff := goodIn_r _ [231, 157, 158, 159, 5, 160, 71, 68, 72, 70, 151, 152, 153, 154, 155, 156, 232, 233, 234, 235, 180, 181, 182, 183, 171, 172, 173, 174, 80, 81, 82, 192, 193, 194, 195, 196, 197, 198, 199, 200, 75, 76, 714, 715, 716, 717, 718, 719, 720, 721, 722, 723, 724, 725, 726, 727, 728, 729, 730, 731, 732, 733, 734, 735] (by decide +kernel) (by decide +kernel)
set_option maxRecDepth 20000 in
theorem gL_law_X6_turnOff : GoodIn wsL_law (wsV RL 27 RX6 yX6_turnOff wsX6_turnOff) := goodIn_app (goodIn_of _ (by decide +kernel)) ggL_law_X6_turnOff
set_option maxRecDepth 20000 in
theorem ggL_law_X5_put : GoodIn wsL_law wsX5_put := goodIn_r _ [239, 16, 15, 87, 88, 89, 14, 90, 35, 91, 92, 93, 94, 95, 96, 24, 97, 40, 98, 99, 100, 101, 102, 103, 41, 104, 105, 106, 107, 240, 241, 242, 243, 244, 113, 2, 114, 245, 246, 124, 125, 126, 127, 128, 129, 130, 131, 132, 133, 134, 135, 136, 21, 137, 138, 139, 20, 140, 141, 47, 142, 143, 144, 145, 146, 704, 705, 706, 707, 708, 709, 710, 711, 712, 713, 736, 737, 738, 739, 742, 743, 744, 745, 746, 747, 748, 749, 740, 741] (by decide +kernel) (by decide +kernel)
set_option maxRecDepth 20000 in
theorem gL_law_X5_put : GoodIn wsL_law (wsV RL 28 RX5 yX5_put wsX5_put) := goodIn_app (goodIn_of _ (by decide +kernel)) ggL_law_X5_put
set_option maxRecDepth 20000 in
theorem ggL_law_X6_put : GoodIn wsL_law wsX6_put := goodIn_r _ [250, 151, 152, 5, 153, 154, 155, 156, 157, 158, 159, 160, 71, 68, 72, 70, 167, 168, 169, 170, 171, 172, 173, 174, 80, 81, 82, 175, 176, 177, 178, 179, 180, 181, 182, 183, 184, 185, 186, 187, 188, 189, 190, 191, 192, 193, 194, 195, 196, 197, 198, 199, 200, 75, 76, 714, 715, 716, 717, 718, 719, 720, 721, 722, 723, 724, 725, 726, 727, 728, 729, 730, 731, 732, 733, 734, 735] (by decide +kernel) (by decide +kernel)
set_option maxRecDepth 20000 in
theorem gL_law_X6_put : GoodIn wsL_law (wsV RL 31 RX6 yX6_put wsX6_put) := goodIn_app (goodIn_of _ (by decide +kernel)) ggL_law_X6_put
set_option maxRecDepth 20000 in
theorem ggL_law_X5_couple : GoodIn wsL_law wsX5_couple := goodIn_r _ [254, 16, 15, 87, 88, 89, 14, 90, 35, 91, 92, 93, 94, 95, 96, 24, 97, 40, 98, 99, 100, 101, 102, 103, 41, 104, 105, 106, 107, 255, 256, 257, 258, 209, 211, 244, 259, 113, 2, 114, 260, 130, 131, 132, 261, 262, 263, 264, 265, 266, 267, 268, 269, 270, 271, 272, 129, 273, 274, 275, 276, 133, 134, 135, 136, 21, 137, 138, 139, 20, 140, 141, 47, 142, 143, 144, 145, 146, 704, 705, 706, 707, 708, 709, 710, 711, 712, 713, 736, 737, 738, 739, 742, 743, 744, 745, 746, 747, 748, 749, 740, 741] (by decide +kernel) (by decide +kernel)
set_option maxRecDepth 20000 in
theorem gL_law_X5_couple : GoodIn wsL_law (wsV RL 32 RX5 yX5_couple wsX5_couple) := goodIn_app (goodIn_of _ (by decide +kernel)) ggL_law_X5_couple
set_option maxRecDepth 20000 in
theorem ggL_law_X6_couple : GoodIn wsL_law wsX6_couple := goodIn_r _ [280, 157, 158, 159, 5, 160, 71, 68, 72, 70, 151, 152, 153, 154, 155, 156, 281, 282, 283, 284, 285, 180, 181, 182, 183, 171, 172, 173, 174, 80, 81, 82, 184, 185, 186, 187, 188, 189, 190, 191, 286, 287, 288, 289, 290, 291, 292, 179, 192, 193, 194, 195, 196, 197, 198, 199, 200, 75, 76, 714, 715, 716, 717, 718, 719, 720, 721, 722, 723, 724, 725, 726, 727, 728, 729, 730, 731, 732, 733, 734, 735] (by decide +kernel) (by decide +kernel)
set_option maxRecDepth 20000 in
theorem gL_law_X6_couple : GoodIn wsL_law (wsV RL 35 RX6 yX6_couple wsX6_couple) := goodIn_app (goodIn_of _ (by decide +kernel)) ggL_law_X6_couple
set_option maxRecDepth 20000 in
theorem ggL_law_X5_pass : GoodIn wsL_law wsX5_pass := goodIn_r _ [296, 16, 15, 87, 88, 89, 14, 90, 35, 91, 92, 93, 94, 95, 96, 24, 97, 40, 98, 99, 100, 101, 102, 103, 41, 104, 105, 106, 107, 297, 298, 299, 300, 301, 302, 303, 304, 305, 306, 307, 308, 309, 310, 270, 271, 272, 129, 130, 131, 132, 311, 312, 313, 314, 315, 316, 317, 318, 319, 320, 321, 322, 323, 324, 325, 326, 327, 328, 329, 330, 331, 332, 333, 334, 335, 125, 126, 127, 128, 133, 134, 135, 2, 136, 21, 137, 138, 139, 20, 140, 141, 47, 142, 143, 144, 145, 146, 704, 705, 706, 707, 708, 709, 710, 711, 712, 713, 736, 737, 738, 739, 742, 743, 744, 745, 746, 747, 748, 749, 740, 741] (by decide +kernel) (by decide +kernel)
set_option maxRecDepth 20000 in
theorem gL_law_X5_pass : GoodIn wsL_law (wsV RL 36 RX5 yX5_pass wsX5_pass) := goodIn_app (goodIn_of _ (by decide +kernel)) ggL_law_X5_pass
set_option maxRecDepth 20000 in
theorem ggL_law_X6_pass : GoodIn wsL_law wsX6_pass := goodIn_r _ [339, 157, 158, 159, 5, 160, 71, 68, 72, 70, 154, 155, 156, 340, 341, 342, 343, 344, 345, 346, 347, 348, 180, 181, 182, 183, 171, 172, 173, 174, 80, 81, 82, 286, 287, 288, 289, 184, 185, 186, 187, 188, 189, 190, 191, 349, 350, 351, 352, 353, 354, 355, 356, 357, 358, 359, 360, 361, 362, 363, 364, 365, 366, 367, 368, 369, 370, 371, 372, 373, 374, 375, 376, 377, 378, 379, 380, 175, 176, 177, 178, 179, 192, 193, 194, 195, 196, 197, 198, 199, 200, 75, 76, 714, 715, 716, 717, 718, 719, 720, 721, 722, 723, 724, 725, 726, 727, 728, 729, 730, 731, 732, 733, 734, 735] (by decide +kernel) (by decide +kernel)
set_option maxRecDepth 20000 in
theorem gL_law_X6_pass : GoodIn wsL_law (wsV RL 39 RX6 yX6_pass wsX6_pass) := goodIn_app (goodIn_of _ (by decide +kernel)) ggL_law_X6_pass
set_option maxRecDepth 20000 in
theorem ggL_law_X5_type : GoodIn wsL_law wsX5_type := goodIn_r _ [384, 29, 385, 386, 387, 388, 54, 389, 390, 63, 704, 705, 706, 707, 708, 709, 710, 711, 712, 713, 750, 751, 752, 753, 754, 755, 756, 757, 758, 759] (by decide +kernel) (by decide +kernel)
set_option maxRecDepth 20000 in
theorem gL_law_X5_type : GoodIn wsL_law (wsV RL 40 RX5 yX5_type wsX5_type) := goodIn_app (goodIn_of _ (by decide +kernel)) ggL_law_X5_type
set_option maxRecDepth 20000 in
theorem ggL_law_X6_type : GoodIn wsL_law wsX6_type := goodIn_r _ [394, 395, 77, 714, 715, 716, 717, 718, 719, 720, 721, 722, 723, 724, 725, 726, 727, 728, 729, 730, 731, 732, 733, 734, 735] (by decide +kernel) (by decide +kernel)
set_option maxRecDepth 20000 in
theorem gL_law_X6_type : GoodIn wsL_law (wsV RL 44 RX6 yX6_type wsX6_type) := goodIn_app (goodIn_of _ (by decide +kernel)) ggL_law_X6_type
set_option maxRecDepth 20000 in
theorem ggL_law_X5_clearText : GoodIn wsL_law wsX5_clearText := goodIn_r _ [399, 29, 385, 400, 401, 402, 54, 403, 390, 704, 705, 706, 707, 708, 709, 710, 711, 712, 713, 750, 751, 752, 753, 754, 755, 756, 757, 758, 759] (by decide +kernel) (by decide +kernel)
set_option maxRecDepth 20000 in
theorem gL_law_X5_clearText : GoodIn wsL_law (wsV RL 45 RX5 yX5_clearText wsX5_clearText) := goodIn_app (goodIn_of _ (by decide +kernel)) ggL_law_X5_clearText
set_option maxRecDepth 20000 in
theorem ggL_law_X6_clearText : GoodIn wsL_law wsX6_clearText := goodIn_r _ [407, 395, 714, 715, 716, 717, 718, 719, 720, 721, 722, 723, 724, 725, 726, 727, 728, 729, 730, 731, 732, 733, 734, 735] (by decide +kernel) (by decide +kernel)
set_option maxRecDepth 20000 in
theorem gL_law_X6_clearText : GoodIn wsL_law (wsV RL 49 RX6 yX6_clearText wsX6_clearText) := goodIn_app (goodIn_of _ (by decide +kernel)) ggL_law_X6_clearText
set_option maxRecDepth 20000 in
theorem ggL_law_X5_perform : GoodIn wsL_law wsX5_perform := goodIn_r _ [411, 29, 16, 15, 412, 413, 414, 415, 28, 416, 417, 418, 55, 56, 57, 419, 58, 420, 421, 422, 423, 424, 54, 425, 390, 63, 426, 427, 428, 429, 430, 431, 432, 433, 434, 435, 436, 437, 438, 439, 440, 441, 113, 2, 114, 442, 443, 444, 445, 446, 447, 448, 449, 87, 88, 89, 14, 90, 35, 91, 92, 93, 94, 95, 96, 24, 97, 40, 98, 99, 100, 101, 102, 103, 41, 104, 105, 106, 107, 450, 451, 452, 453, 454, 455, 456, 457, 458, 459, 460, 461, 462, 463, 464, 465, 466, 467, 468, 469, 205, 206, 207, 208, 209, 210, 211, 124, 125, 126, 127, 128, 129, 130, 131, 132, 224, 225, 226, 227, 240, 241, 242, 243, 244, 245, 246, 255, 256, 257, 258, 259, 260, 261, 262, 263, 264, 265, 266, 267, 268, 269, 270, 271, 272, 273, 274, 275, 276, 297, 298, 299, 300, 301, 302, 303, 304, 305, 306, 307, 308, 309, 310, 311, 312, 313, 314, 315, 316, 317, 318, 319, 320, 321, 322, 323, 324, 325, 326, 327, 328, 329, 330, 331, 332, 333, 334, 335, 470, 471, 472, 473, 474, 475, 476, 133, 134, 135, 136, 21, 137, 138, 139, 20, 140, 141, 47, 142, 143, 144, 145, 146, 704, 705, 706, 707, 708, 709, 710, 711, 712, 713, 750, 751, 752, 753, 754, 755, 756, 757, 758, 759, 736, 737, 738, 739, 742, 743, 744, 745, 746, 747, 748, 749, 740, 741] (by decide +kernel) (by decide +kernel)
set_option maxRecDepth 20000 in
theorem gL_law_X5_perform : GoodIn wsL_law (wsV RL 50 RX5 yX5_perform wsX5_perform) := goodIn_app (goodIn_of _ (by decide +kernel)) ggL_law_X5_perform
set_option maxRecDepth 20000 in
theorem ggL_law_X6_perform : GoodIn wsL_law wsX6_perform := goodIn_r _ [480, 481, 482, 483, 78, 79, 484, 485, 486, 5, 487, 395, 488, 489, 490, 491, 77, 492, 493, 494, 495, 496, 497, 498, 499, 500, 501, 502, 154, 155, 156, 503, 504, 505, 506, 507, 508, 509, 510, 216, 217, 218, 219, 68, 180, 181, 182, 183, 171, 172, 173, 174, 80, 81, 82, 175, 176, 177, 178, 70, 179, 184, 185, 186, 187, 188, 189, 190, 191, 232, 233, 234, 235, 167, 168, 169, 170, 281, 282, 283, 284, 285, 286, 287, 288, 289, 290, 291, 292, 340, 341, 342, 343, 344, 345, 346, 347, 348, 349, 350, 351, 352, 353, 354, 355, 356, 357, 358, 359, 360, 361, 362, 363, 364, 365, 366, 367, 368, 369, 370, 371, 372, 373, 374, 375, 376, 377, 378, 379, 380, 157, 158, 159, 160, 71, 72, 511, 512, 513, 514, 196, 197, 198, 199, 200, 75, 76, 714, 715, 716, 717, 718, 719, 720, 721, 722, 723, 724, 725, 726, 727, 728, 729, 730, 731, 732, 733, 734, 735] (by decide +kernel) (by decide +kernel)
set_option maxRecDepth 20000 in
theorem gL_law_X6_perform : GoodIn wsL_law (wsV RL 53 RX6 yX6_perform wsX6_perform) := goodIn_app (goodIn_of _ (by decide +kernel)) ggL_law_X6_perform
set_option maxRecDepth 20000 in
theorem ggL_law_X5_stopped : GoodIn wsL_law wsX5_stopped := goodIn_r _ [518, 474, 475, 476, 704, 705, 706, 707, 708, 709, 710, 711, 712, 713] (by decide +kernel) (by decide +kernel)
set_option maxRecDepth 20000 in
theorem gL_law_X5_stopped : GoodIn wsL_law (wsV RL 54 RX5 yX5_stopped wsX5_stopped) := goodIn_app (goodIn_of _ (by decide +kernel)) ggL_law_X5_stopped
set_option maxRecDepth 20000 in
theorem ggL_law_X6_stopped : GoodIn wsL_law wsX6_stopped := goodIn_r _ [522, 78, 79, 714, 715, 716, 717, 718, 719, 720, 721, 722, 723, 724, 725, 726, 727, 728, 729, 730, 731, 732, 733, 734, 735] (by decide +kernel) (by decide +kernel)
set_option maxRecDepth 20000 in
theorem gL_law_X6_stopped : GoodIn wsL_law (wsV RL 57 RX6 yX6_stopped wsX6_stopped) := goodIn_app (goodIn_of _ (by decide +kernel)) ggL_law_X6_stopped
set_option maxRecDepth 20000 in
theorem ggL_law_X5_undo : GoodIn wsL_law wsX5_undo := goodIn_r _ [526, 21, 15, 527, 528, 529, 20, 530, 141, 47, 146, 88, 89, 14, 90, 35, 91, 92, 93, 94, 95, 96, 24, 97, 40, 98, 99, 100, 101, 102, 103, 41, 104, 105, 106, 107, 704, 705, 706, 707, 708, 709, 710, 711, 712, 713, 740, 741, 736, 737, 738, 739, 742, 743, 744, 745, 746, 747, 748, 749] (by decide +kernel) (by decide +kernel)
set_option maxRecDepth 20000 in
theorem gL_law_X5_undo : GoodIn wsL_law (wsV RL 58 RX5 yX5_undo wsX5_undo) := goodIn_app (goodIn_of _ (by decide +kernel)) ggL_law_X5_undo
set_option maxRecDepth 20000 in
theorem ggL_law_X6_undo : GoodIn wsL_law wsX6_undo := goodIn_r _ [534, 200, 68, 75, 70, 76, 714, 715, 716, 717, 718, 719, 720, 721, 722, 723, 724, 725, 726, 727, 728, 729, 730, 731, 732, 733, 734, 735] (by decide +kernel) (by decide +kernel)
set_option maxRecDepth 20000 in
theorem gL_law_X6_undo : GoodIn wsL_law (wsV RL 61 RX6 yX6_undo wsX6_undo) := goodIn_app (goodIn_of _ (by decide +kernel)) ggL_law_X6_undo
