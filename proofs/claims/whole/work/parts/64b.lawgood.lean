set_option maxRecDepth 20000 in
theorem ggL_law_X5_keep : GoodIn wsL_law wsX5_keep := goodIn_r _ [538, 17, 15, 539, 540, 87, 88, 89, 14, 90, 35, 91, 92, 93, 94, 95, 96, 24, 97, 40, 98, 99, 100, 101, 102, 103, 41, 104, 105, 106, 107, 704, 705, 706, 707, 708, 709, 710, 711, 712, 713, 736, 737, 738, 739, 742, 743, 744, 745, 746, 747, 748, 749] (by decide +kernel) (by decide +kernel)
set_option maxRecDepth 20000 in
theorem gL_law_X5_keep : GoodIn wsL_law (wsV RL 62 RX5 yX5_keep wsX5_keep) := goodIn_app (goodIn_of _ (by decide +kernel)) ggL_law_X5_keep
set_option maxRecDepth 20000 in
theorem ggL_law_X6_keep : GoodIn wsL_law wsX6_keep := goodIn_r _ [544, 73, 68, 74, 70, 545, 714, 715, 716, 717, 718, 719, 720, 721, 722, 723, 724, 725, 726, 727, 728, 729, 730, 731, 732, 733, 734, 735] (by decide +kernel) (by decide +kernel)
set_option maxRecDepth 20000 in
theorem gL_law_X6_keep : GoodIn wsL_law (wsV RL 65 RX6 yX6_keep wsX6_keep) := goodIn_app (goodIn_of _ (by decide +kernel)) ggL_law_X6_keep
set_option maxRecDepth 20000 in
theorem ggL_law_X5_restore : GoodIn wsL_law wsX5_restore := goodIn_r _ [549, 539, 16, 15, 17, 540, 87, 88, 89, 14, 90, 35, 91, 92, 93, 94, 95, 96, 24, 97, 40, 98, 99, 100, 101, 102, 103, 41, 104, 105, 106, 107, 133, 134, 135, 2, 136, 21, 137, 138, 139, 20, 140, 141, 47, 142, 143, 144, 145, 146, 704, 705, 706, 707, 708, 709, 710, 711, 712, 713, 736, 737, 738, 739, 742, 743, 744, 745, 746, 747, 748, 749, 740, 741] (by decide +kernel) (by decide +kernel)
set_option maxRecDepth 20000 in
theorem gL_law_X5_restore : GoodIn wsL_law (wsV RL 66 RX5 yX5_restore wsX5_restore) := goodIn_app (goodIn_of _ (by decide +kernel)) ggL_law_X5_restore
set_option maxRecDepth 20000 in
theorem ggL_law_X6_restore : GoodIn wsL_law wsX6_restore := goodIn_r _ [553, 545, 68, 73, 70, 74, 157, 158, 159, 5, 160, 71, 72, 196, 197, 198, 199, 200, 75, 76, 714, 715, 716, 717, 718, 719, 720, 721, 722, 723, 724, 725, 726, 727, 728, 729, 730, 731, 732, 733, 734, 735] (by decide +kernel) (by decide +kernel)
set_option maxRecDepth 20000 in
theorem gL_law_X6_restore : GoodIn wsL_law (wsV RL 69 RX6 yX6_restore wsX6_restore) := goodIn_app (goodIn_of _ (by decide +kernel)) ggL_law_X6_restore
set_option maxRecDepth 20000 in
theorem ggL_law_X5_pair : GoodIn wsL_law wsX5_pair := goodIn_r _ [557, 15, 558, 559, 560, 561, 562, 563, 564, 332, 333, 334, 565, 113, 2, 114, 566, 116, 24, 117, 567, 130, 131, 132, 40, 568, 316, 317, 318, 104, 41, 103, 319, 320, 321, 322, 129, 569, 324, 325, 326, 704, 705, 706, 707, 708, 709, 710, 711, 712, 713, 736, 737, 738, 739, 742, 743, 744, 745, 746, 747, 748, 749] (by decide +kernel) (by decide +kernel)
set_option maxRecDepth 20000 in
theorem gL_law_X5_pair : GoodIn wsL_law (wsV RL 70 RX5 yX5_pair wsX5_pair) := goodIn_app (goodIn_of _ (by decide +kernel)) ggL_law_X5_pair
set_option maxRecDepth 20000 in
theorem ggL_law_X6_pair : GoodIn wsL_law wsX6_pair := goodIn_r _ [573, 151, 152, 5, 153, 154, 155, 156, 184, 185, 186, 187, 171, 172, 173, 174, 68, 80, 81, 82, 188, 189, 190, 191, 574, 575, 576, 577, 358, 359, 360, 361, 180, 181, 182, 183, 362, 363, 364, 365, 366, 367, 368, 369, 370, 371, 372, 373, 378, 379, 380, 714, 715, 716, 717, 718, 719, 720, 721, 722, 723, 724, 725, 726, 727, 728, 729, 730, 731, 732, 733, 734, 735] (by decide +kernel) (by decide +kernel)
set_option maxRecDepth 20000 in
theorem gL_law_X6_pair : GoodIn wsL_law (wsV RL 73 RX6 yX6_pair wsX6_pair) := goodIn_app (goodIn_of _ (by decide +kernel)) ggL_law_X6_pair
set_option maxRecDepth 20000 in
theorem ggL_law_X5_book : GoodIn wsL_law wsX5_book := goodIn_r _ [581, 582, 15, 558, 583, 584, 585, 586, 565, 113, 2, 114, 587, 270, 271, 24, 272, 104, 41, 103, 102, 129, 130, 131, 132, 40, 704, 705, 706, 707, 708, 709, 710, 711, 712, 713, 736, 737, 738, 739, 742, 743, 744, 745, 746, 747, 748, 749] (by decide +kernel) (by decide +kernel)
set_option maxRecDepth 20000 in
theorem gL_law_X5_book : GoodIn wsL_law (wsV RL 74 RX5 yX5_book wsX5_book) := goodIn_app (goodIn_of _ (by decide +kernel)) ggL_law_X5_book
set_option maxRecDepth 20000 in
theorem ggL_law_X6_book : GoodIn wsL_law wsX6_book := goodIn_r _ [591, 592, 70, 593, 151, 152, 5, 153, 154, 155, 156, 286, 287, 288, 289, 171, 172, 173, 174, 68, 80, 81, 82, 180, 181, 182, 183, 184, 185, 186, 187, 188, 189, 190, 191, 714, 715, 716, 717, 718, 719, 720, 721, 722, 723, 724, 725, 726, 727, 728, 729, 730, 731, 732, 733, 734, 735] (by decide +kernel) (by decide +kernel)
set_option maxRecDepth 20000 in
theorem gL_law_X6_book : GoodIn wsL_law (wsV RL 78 RX6 yX6_book wsX6_book) := goodIn_app (goodIn_of _ (by decide +kernel)) ggL_law_X6_book
set_option maxRecDepth 20000 in
theorem ggL_law_X5_reason : GoodIn wsL_law wsX5_reason := goodIn_r _ [597, 15, 558, 565, 113, 2, 114, 598, 599, 600, 24, 601, 102, 331, 332, 333, 334, 40, 311, 312, 313, 314, 315, 316, 317, 318, 104, 41, 103, 319, 320, 321, 322, 129, 130, 131, 132, 323, 324, 325, 326, 327, 328, 329, 330, 704, 705, 706, 707, 708, 709, 710, 711, 712, 713, 736, 737, 738, 739, 742, 743, 744, 745, 746, 747, 748, 749] (by decide +kernel) (by decide +kernel)
set_option maxRecDepth 20000 in
theorem gL_law_X5_reason : GoodIn wsL_law (wsV RL 79 RX5 yX5_reason wsX5_reason) := goodIn_app (goodIn_of _ (by decide +kernel)) ggL_law_X5_reason
set_option maxRecDepth 20000 in
theorem ggL_law_X6_reason : GoodIn wsL_law wsX6_reason := goodIn_r _ [605, 151, 152, 5, 153, 154, 155, 156, 606, 607, 608, 609, 354, 355, 356, 357, 171, 172, 173, 174, 68, 80, 81, 82, 358, 359, 360, 361, 180, 181, 182, 183, 362, 363, 364, 365, 366, 367, 368, 369, 188, 189, 190, 191, 370, 371, 372, 373, 374, 375, 376, 377, 378, 379, 380, 714, 715, 716, 717, 718, 719, 720, 721, 722, 723, 724, 725, 726, 727, 728, 729, 730, 731, 732, 733, 734, 735] (by decide +kernel) (by decide +kernel)
set_option maxRecDepth 20000 in
theorem gL_law_X6_reason : GoodIn wsL_law (wsV RL 82 RX6 yX6_reason wsX6_reason) := goodIn_app (goodIn_of _ (by decide +kernel)) ggL_law_X6_reason
set_option maxRecDepth 20000 in
theorem ggL_law_X5_force : GoodIn wsL_law wsX5_force := goodIn_r _ [613, 15, 558, 564, 332, 333, 334, 565, 113, 2, 114, 614, 245, 246, 615, 312, 313, 24, 314, 315, 316, 317, 318, 104, 41, 40, 103, 319, 320, 321, 322, 129, 130, 131, 132, 323, 324, 325, 326, 704, 705, 706, 707, 708, 709, 710, 711, 712, 713, 736, 737, 738, 739, 742, 743, 744, 745, 746, 747, 748, 749] (by decide +kernel) (by decide +kernel)
set_option maxRecDepth 20000 in
theorem gL_law_X5_force : GoodIn wsL_law (wsV RL 83 RX5 yX5_force wsX5_force) := goodIn_app (goodIn_of _ (by decide +kernel)) ggL_law_X5_force
set_option maxRecDepth 20000 in
theorem ggL_law_X6_force : GoodIn wsL_law wsX6_force := goodIn_r _ [619, 151, 152, 5, 153, 154, 155, 156, 171, 172, 173, 174, 68, 80, 81, 82, 358, 359, 360, 361, 180, 181, 182, 183, 362, 363, 364, 365, 366, 367, 368, 369, 188, 189, 190, 191, 370, 371, 372, 373, 378, 379, 380, 714, 715, 716, 717, 718, 719, 720, 721, 722, 723, 724, 725, 726, 727, 728, 729, 730, 731, 732, 733, 734, 735] (by decide +kernel) (by decide +kernel)
set_option maxRecDepth 20000 in
theorem gL_law_X6_force : GoodIn wsL_law (wsV RL 86 RX6 yX6_force wsX6_force) := goodIn_app (goodIn_of _ (by decide +kernel)) ggL_law_X6_force
set_option maxRecDepth 20000 in
theorem ggL_law_X5_restsIn : GoodIn wsL_law wsX5_restsIn := goodIn_r _ [623, 25, 15, 558, 565, 113, 2, 114, 624, 95, 96, 24, 97, 40, 98, 99, 100, 101, 102, 103, 41, 104, 105, 106, 107, 625, 303, 304, 305, 306, 307, 308, 309, 310, 270, 271, 272, 129, 130, 131, 132, 311, 312, 313, 314, 315, 316, 317, 318, 319, 320, 321, 322, 323, 324, 325, 326, 327, 328, 329, 330, 331, 332, 333, 334, 335, 125, 126, 127, 128, 704, 705, 706, 707, 708, 709, 710, 711, 712, 713, 736, 737, 738, 739, 742, 743, 744, 745, 746, 747, 748, 749] (by decide +kernel) (by decide +kernel)
set_option maxRecDepth 20000 in
theorem gL_law_X5_restsIn : GoodIn wsL_law (wsV RL 87 RX5 yX5_restsIn wsX5_restsIn) := goodIn_app (goodIn_of _ (by decide +kernel)) ggL_law_X5_restsIn
set_option maxRecDepth 20000 in
theorem ggL_law_X6_restsIn : GoodIn wsL_law wsX6_restsIn := goodIn_r _ [629, 151, 152, 5, 153, 154, 155, 156, 630, 631, 632, 633, 634, 635, 171, 172, 173, 174, 68, 80, 81, 82, 636, 637, 638, 639, 180, 181, 182, 183, 349, 350, 351, 352, 353, 358, 359, 360, 361, 362, 363, 364, 365, 366, 367, 368, 369, 188, 189, 190, 191, 370, 371, 372, 373, 374, 375, 376, 377, 378, 379, 380, 714, 715, 716, 717, 718, 719, 720, 721, 722, 723, 724, 725, 726, 727, 728, 729, 730, 731, 732, 733, 734, 735] (by decide +kernel) (by decide +kernel)
set_option maxRecDepth 20000 in
theorem gL_law_X6_restsIn : GoodIn wsL_law (wsV RL 90 RX6 yX6_restsIn wsX6_restsIn) := goodIn_app (goodIn_of _ (by decide +kernel)) ggL_law_X6_restsIn
set_option maxRecDepth 20000 in
theorem ggL_law_X5_depthIn : GoodIn wsL_law wsX5_depthIn := goodIn_r _ [643, 25, 15, 558, 560, 565, 113, 2, 114, 624, 95, 96, 24, 97, 40, 98, 99, 100, 101, 102, 103, 41, 104, 105, 106, 107, 625, 303, 304, 305, 306, 307, 308, 309, 310, 270, 271, 272, 129, 130, 131, 132, 311, 312, 313, 314, 315, 316, 317, 318, 319, 320, 321, 322, 323, 324, 325, 326, 327, 328, 329, 330, 331, 332, 333, 334, 335, 125, 126, 127, 128, 704, 705, 706, 707, 708, 709, 710, 711, 712, 713, 736, 737, 738, 739, 742, 743, 744, 745, 746, 747, 748, 749] (by decide +kernel) (by decide +kernel)
set_option maxRecDepth 20000 in
theorem gL_law_X5_depthIn : GoodIn wsL_law (wsV RL 91 RX5 yX5_depthIn wsX5_depthIn) := goodIn_app (goodIn_of _ (by decide +kernel)) ggL_law_X5_depthIn
set_option maxRecDepth 20000 in
theorem ggL_law_X6_depthIn : GoodIn wsL_law wsX6_depthIn := goodIn_r _ [647, 634, 151, 152, 5, 153, 154, 155, 156, 630, 631, 632, 633, 635, 171, 172, 173, 174, 68, 80, 81, 82, 636, 637, 638, 639, 180, 181, 182, 183, 349, 350, 351, 352, 353, 358, 359, 360, 361, 362, 363, 364, 365, 366, 367, 368, 369, 188, 189, 190, 191, 370, 371, 372, 373, 374, 375, 376, 377, 378, 379, 380, 714, 715, 716, 717, 718, 719, 720, 721, 722, 723, 724, 725, 726, 727, 728, 729, 730, 731, 732, 733, 734, 735] (by decide +kernel) (by decide +kernel)
set_option maxRecDepth 20000 in
theorem gL_law_X6_depthIn : GoodIn wsL_law (wsV RL 94 RX6 yX6_depthIn wsX6_depthIn) := goodIn_app (goodIn_of _ (by decide +kernel)) ggL_law_X6_depthIn
set_option maxRecDepth 20000 in
theorem ggL_law_X5_leastVoltage : GoodIn wsL_law wsX5_leastVoltage := goodIn_r _ [651, 15, 558, 560, 565, 113, 2, 114, 652, 653, 654, 24, 655, 40, 319, 320, 321, 322, 323, 324, 325, 326, 704, 705, 706, 707, 708, 709, 710, 711, 712, 713, 736, 737, 738, 739, 742, 743, 744, 745, 746, 747, 748, 749] (by decide +kernel) (by decide +kernel)
set_option maxRecDepth 20000 in
theorem gL_law_X5_leastVoltage : GoodIn wsL_law (wsV RL 95 RX5 yX5_leastVoltage wsX5_leastVoltage) := goodIn_app (goodIn_of _ (by decide +kernel)) ggL_law_X5_leastVoltage
set_option maxRecDepth 20000 in
theorem ggL_law_X6_leastVoltage : GoodIn wsL_law wsX6_leastVoltage := goodIn_r _ [659, 151, 152, 5, 153, 154, 155, 156, 171, 172, 173, 174, 68, 80, 81, 82, 362, 363, 364, 365, 370, 371, 372, 373, 374, 375, 376, 377, 378, 379, 380, 714, 715, 716, 717, 718, 719, 720, 721, 722, 723, 724, 725, 726, 727, 728, 729, 730, 731, 732, 733, 734, 735] (by decide +kernel) (by decide +kernel)
set_option maxRecDepth 20000 in
theorem gL_law_X6_leastVoltage : GoodIn wsL_law (wsV RL 98 RX6 yX6_leastVoltage wsX6_leastVoltage) := goodIn_app (goodIn_of _ (by decide +kernel)) ggL_law_X6_leastVoltage
set_option maxRecDepth 20000 in
theorem ggL_law_X5_drawingVoltage : GoodIn wsL_law wsX5_drawingVoltage := goodIn_r _ [663, 15, 558, 565, 113, 2, 114, 664, 665, 666, 24, 667, 102, 668, 653, 654, 655, 40, 319, 320, 321, 322, 323, 324, 325, 326, 704, 705, 706, 707, 708, 709, 710, 711, 712, 713, 736, 737, 738, 739, 742, 743, 744, 745, 746, 747, 748, 749] (by decide +kernel) (by decide +kernel)
set_option maxRecDepth 20000 in
theorem gL_law_X5_drawingVoltage : GoodIn wsL_law (wsV RL 99 RX5 yX5_drawingVoltage wsX5_drawingVoltage) := goodIn_app (goodIn_of _ (by decide +kernel)) ggL_law_X5_drawingVoltage
set_option maxRecDepth 20000 in
theorem ggL_law_X6_drawingVoltage : GoodIn wsL_law wsX6_drawingVoltage := goodIn_r _ [672, 151, 152, 5, 153, 154, 155, 156, 673, 674, 675, 676, 171, 172, 173, 174, 68, 80, 81, 82, 362, 363, 364, 365, 370, 371, 372, 373, 374, 375, 376, 377, 378, 379, 380, 714, 715, 716, 717, 718, 719, 720, 721, 722, 723, 724, 725, 726, 727, 728, 729, 730, 731, 732, 733, 734, 735] (by decide +kernel) (by decide +kernel)
set_option maxRecDepth 20000 in
theorem gL_law_X6_drawingVoltage : GoodIn wsL_law (wsV RL 102 RX6 yX6_drawingVoltage wsX6_drawingVoltage) := goodIn_app (goodIn_of _ (by decide +kernel)) ggL_law_X6_drawingVoltage
set_option maxRecDepth 20000 in
theorem ggL_law_X5_strongest : GoodIn wsL_law wsX5_strongest := goodIn_r _ [680, 15, 558, 560, 568, 316, 317, 24, 318, 104, 41, 40, 103, 319, 320, 321, 322, 129, 130, 131, 132, 704, 705, 706, 707, 708, 709, 710, 711, 712, 713, 736, 737, 738, 739, 742, 743, 744, 745, 746, 747, 748, 749] (by decide +kernel) (by decide +kernel)
set_option maxRecDepth 20000 in
theorem gL_law_X5_strongest : GoodIn wsL_law (wsV RL 103 RX5 yX5_strongest wsX5_strongest) := goodIn_app (goodIn_of _ (by decide +kernel)) ggL_law_X5_strongest
set_option maxRecDepth 20000 in
theorem ggL_law_X6_strongest : GoodIn wsL_law wsX6_strongest := goodIn_r _ [684, 574, 575, 576, 5, 577, 171, 172, 173, 174, 68, 80, 81, 82, 358, 359, 360, 361, 180, 181, 182, 183, 362, 363, 364, 365, 366, 367, 368, 369, 188, 189, 190, 191, 714, 715, 716, 717, 718, 719, 720, 721, 722, 723, 724, 725, 726, 727, 728, 729, 730, 731, 732, 733, 734, 735] (by decide +kernel) (by decide +kernel)
set_option maxRecDepth 20000 in
theorem gL_law_X6_strongest : GoodIn wsL_law (wsV RL 106 RX6 yX6_strongest wsX6_strongest) := goodIn_app (goodIn_of _ (by decide +kernel)) ggL_law_X6_strongest
set_option maxRecDepth 20000 in
theorem ggL_law_X5_count : GoodIn wsL_law wsX5_count := goodIn_r _ [688, 15, 540, 689, 690, 21, 691, 29, 385, 692, 693, 694, 695, 2, 696, 558, 697, 698, 699, 563, 561, 560, 598, 599, 600, 24, 601, 102, 331, 332, 333, 334, 40, 311, 312, 313, 314, 315, 316, 317, 318, 104, 41, 103, 319, 320, 321, 322, 129, 130, 131, 132, 323, 324, 325, 326, 327, 328, 329, 330, 567, 704, 705, 706, 707, 708, 709, 710, 711, 712, 713, 736, 737, 738, 739, 740, 741, 750, 751, 752, 753, 754, 755, 756, 757, 758, 759, 742, 743, 744, 745, 746, 747, 748, 749] (by decide +kernel) (by decide +kernel)
set_option maxRecDepth 20000 in
theorem gL_law_X5_count : GoodIn wsL_law (wsV RL 107 RX5 yX5_count wsX5_count) := goodIn_app (goodIn_of _ (by decide +kernel)) ggL_law_X5_count
set_option maxRecDepth 20000 in
theorem ggL_law_X6_count : GoodIn wsL_law wsX6_count := goodIn_r _ [703, 68, 200, 395, 171, 172, 173, 5, 174, 80, 81, 82, 606, 607, 608, 609, 354, 355, 356, 357, 358, 359, 360, 361, 180, 181, 182, 183, 362, 363, 364, 365, 366, 367, 368, 369, 188, 189, 190, 191, 370, 371, 372, 373, 374, 375, 376, 377, 378, 379, 380, 184, 185, 186, 187, 714, 715, 716, 717, 718, 719, 720, 721, 722, 723, 724, 725, 726, 727, 728, 729, 730, 731, 732, 733, 734, 735] (by decide +kernel) (by decide +kernel)
set_option maxRecDepth 20000 in
theorem gL_law_X6_count : GoodIn wsL_law (wsV RL 110 RX6 yX6_count wsX6_count) := goodIn_app (goodIn_of _ (by decide +kernel)) ggL_law_X6_count
