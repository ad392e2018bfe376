set_option maxRecDepth 20000 in
theorem ggL_law_X6_init : GoodIn wsL_law wsX6_init := goodIn_r _ [9, 10, 11, 12, 13, 14, 15, 16, 17, 18, 19, 20, 21, 22, 23, 24, 25, 26, 27, 28, 29, 30, 31, 32, 33, 34, 35, 36, 37, 38, 39, 40, 41, 42, 43, 44, 45, 46, 47, 48, 49, 50, 51, 52, 53, 54, 55, 56, 57, 58, 59, 60, 61, 62, 63, 64, 65, 66, 67, 68, 69, 70, 71, 775, 776, 777, 778, 779, 780, 781, 782, 783, 784, 754, 755, 756, 757, 758, 759, 760, 785, 786, 787, 788, 789, 790, 791, 792, 793, 794, 795, 796, 797, 798] (by decide +kernel) (by decide +kernel)
set_option maxRecDepth 20000 in
theorem gL_law_X6_init : GoodIn wsL_law (wsX6_init) := ggL_law_X6_init
set_option maxRecDepth 20000 in
theorem ggL_law_X7_init : GoodIn wsL_law wsX7_init := goodIn_r _ [74, 75, 11, 12, 44, 76, 77, 78, 79, 80, 81, 82, 83, 84, 761, 762, 763, 764, 765, 766, 767, 768, 769, 770, 771, 772, 773, 774] (by decide +kernel) (by decide +kernel)
set_option maxRecDepth 20000 in
theorem gL_law_X7_init : GoodIn wsL_law (wsX7_init) := ggL_law_X7_init
set_option maxRecDepth 20000 in
theorem ggL_law_X6_pile : GoodIn wsL_law wsX6_pile := goodIn_r _ [88, 16, 22, 89, 90, 91, 15, 92, 93, 94, 95, 2, 96, 97, 98, 99, 21, 100, 101, 57, 102, 103, 104, 105, 106, 107, 108, 109, 40, 45, 46, 43, 110, 47, 48, 111, 112, 113, 114, 42, 115, 116, 117, 118, 119, 120, 121, 122, 123, 124, 125, 126, 127, 128, 129, 130, 131, 132, 133, 134, 135, 136, 137, 138, 139, 140, 141, 142, 143, 144, 145, 146, 147, 148, 149, 150, 754, 755, 756, 757, 758, 759, 760, 775, 776, 777, 778, 779, 780, 781, 782, 783, 784, 785, 786, 794, 795, 796, 797, 798] (by decide +kernel) (by decide +kernel)
set_option maxRecDepth 20000 in
theorem gL_law_X6_pile : GoodIn wsL_law (wsV RL 13 RX6 yX6_pile wsX6_pile) := goodIn_app (goodIn_of _ (by decide +kernel)) ggL_law_X6_pile
set_option maxRecDepth 20000 in
theorem ggL_law_X7_pile : GoodIn wsL_law wsX7_pile := goodIn_r _ [154, 155, 156, 157, 5, 158, 76, 159, 160, 161, 162, 163, 164, 165, 166, 167, 168, 169, 170, 171, 77, 761, 762, 763, 764, 765, 766, 767, 768, 769, 770, 771, 772, 773, 774] (by decide +kernel) (by decide +kernel)
set_option maxRecDepth 20000 in
theorem gL_law_X7_pile : GoodIn wsL_law (wsV RL 17 RX7 yX7_pile wsX7_pile) := goodIn_app (goodIn_of _ (by decide +kernel)) ggL_law_X7_pile
set_option maxRecDepth 20000 in
theorem ggL_law_X6_finds : GoodIn wsL_law wsX6_finds := goodIn_r _ [175, 16, 22, 176, 177, 178, 179, 15, 180, 40, 110, 181, 182, 183, 184, 93, 185, 148, 149, 42, 150, 116, 117, 118, 186, 2, 187, 97, 98, 99, 21, 100, 101, 57, 102, 103, 104, 105, 106, 107, 108, 109, 45, 46, 43, 94, 47, 48, 111, 112, 113, 114, 115, 119, 120, 188, 189, 190, 191, 128, 129, 192, 193, 194, 195, 134, 135, 136, 137, 754, 755, 756, 757, 758, 759, 760, 775, 776, 777, 778, 779, 780, 781, 782, 783, 784, 794, 795, 796, 797, 798, 785, 786] (by decide +kernel) (by decide +kernel)
set_option maxRecDepth 20000 in
theorem gL_law_X6_finds : GoodIn wsL_law (wsV RL 18 RX6 yX6_finds wsX6_finds) := goodIn_app (goodIn_of _ (by decide +kernel)) ggL_law_X6_finds
set_option maxRecDepth 20000 in
theorem ggL_law_X7_finds : GoodIn wsL_law wsX7_finds := goodIn_r _ [199, 200, 201, 202, 5, 203, 76, 204, 205, 206, 207, 208, 159, 160, 161, 209, 210, 211, 212, 213, 214, 215, 216, 217, 218, 219, 220, 162, 163, 164, 165, 166, 167, 168, 169, 170, 171, 77, 761, 762, 763, 764, 765, 766, 767, 768, 769, 770, 771, 772, 773, 774] (by decide +kernel) (by decide +kernel)
set_option maxRecDepth 20000 in
theorem gL_law_X7_finds : GoodIn wsL_law (wsV RL 21 RX7 yX7_finds wsX7_finds) := goodIn_app (goodIn_of _ (by decide +kernel)) ggL_law_X7_finds
set_option maxRecDepth 20000 in
theorem ggL_law_X6_limit : GoodIn wsL_law wsX6_limit := goodIn_r _ [224, 16, 225, 22, 226, 97, 98, 99, 21, 100, 101, 57, 102, 103, 104, 105, 106, 107, 108, 15, 109, 40, 45, 46, 93, 43, 94, 110, 47, 48, 111, 112, 113, 114, 42, 115, 116, 117, 118, 119, 120, 754, 755, 756, 757, 758, 759, 760, 775, 776, 777, 778, 779, 780, 781, 782, 783, 784, 785, 786, 794, 795, 796, 797, 798] (by decide +kernel) (by decide +kernel)
set_option maxRecDepth 20000 in
theorem gL_law_X6_limit : GoodIn wsL_law (wsV RL 22 RX6 yX6_limit wsX6_limit) := goodIn_app (goodIn_of _ (by decide +kernel)) ggL_law_X6_limit
set_option maxRecDepth 20000 in
theorem ggL_law_X7_limit : GoodIn wsL_law wsX7_limit := goodIn_r _ [230, 76, 159, 160, 5, 161, 166, 167, 168, 169, 170, 171, 77, 761, 762, 763, 764, 765, 766, 767, 768, 769, 770, 771, 772, 773, 774] (by decide +kernel) (by decide +kernel)
set_option maxRecDepth 20000 in
theorem gL_law_X7_limit : GoodIn wsL_law (wsV RL 26 RX7 yX7_limit wsX7_limit) := goodIn_app (goodIn_of _ (by decide +kernel)) ggL_law_X7_limit
set_option maxRecDepth 20000 in
theorem ggL_law_X6_seed : GoodIn wsL_law wsX6_seed := goodIn_r _ [234, 22, 16, 235, 97, 98, 99, 21, 100, 101, 57, 102, 103, 104, 105, 106, 107, 108, 15, 109, 40, 45, 46, 93, 43, 94, 110, 47, 48, 111, 112, 113, 114, 42, 115, 116, 117, 118, 119, 120, 754, 755, 756, 757, 758, 759, 760, 775, 776, 777, 778, 779, 780, 781, 782, 783, 784, 785, 786, 794, 795, 796, 797, 798] (by decide +kernel) (by decide +kernel)
set_option maxRecDepth 20000 in
theorem gL_law_X6_seed : GoodIn wsL_law (wsV RL 27 RX6 yX6_seed wsX6_seed) := goodIn_app (goodIn_of _ (by decide +kernel)) ggL_law_X6_seed
set_option maxRecDepth 20000 in
theorem ggL_law_X7_seed : GoodIn wsL_law wsX7_seed := goodIn_r _ [239, 76, 166, 167, 168, 5, 169, 170, 171, 77, 761, 762, 763, 764, 765, 766, 767, 768, 769, 770, 771, 772, 773, 774] (by decide +kernel) (by decide +kernel)
set_option maxRecDepth 20000 in
theorem gL_law_X7_seed : GoodIn wsL_law (wsV RL 30 RX7 yX7_seed wsX7_seed) := goodIn_app (goodIn_of _ (by decide +kernel)) ggL_law_X7_seed
set_option maxRecDepth 20000 in
theorem ggL_law_X6_draw : GoodIn wsL_law wsX6_draw := goodIn_r _ [243, 16, 22, 244, 245, 246, 15, 247, 111, 248, 249, 250, 251, 43, 252, 253, 254, 255, 94, 93, 97, 98, 99, 21, 100, 101, 57, 102, 103, 104, 105, 106, 107, 108, 109, 40, 45, 46, 110, 47, 48, 112, 113, 114, 42, 115, 116, 117, 118, 119, 120, 256, 257, 258, 259, 260, 261, 262, 263, 264, 265, 266, 267, 186, 2, 187, 268, 269, 270, 271, 754, 755, 756, 757, 758, 759, 760, 775, 776, 777, 778, 779, 780, 781, 782, 783, 784, 785, 786, 794, 795, 796, 797, 798] (by decide +kernel) (by decide +kernel)
set_option maxRecDepth 20000 in
theorem gL_law_X6_draw : GoodIn wsL_law (wsV RL 31 RX6 yX6_draw wsX6_draw) := goodIn_app (goodIn_of _ (by decide +kernel)) ggL_law_X6_draw
set_option maxRecDepth 20000 in
theorem ggL_law_X7_draw : GoodIn wsL_law wsX7_draw := goodIn_r _ [275, 76, 276, 277, 278, 5, 279, 280, 281, 282, 283, 213, 214, 215, 216, 166, 167, 168, 169, 170, 171, 77, 284, 285, 286, 287, 288, 289, 290, 291, 217, 218, 219, 220, 292, 293, 294, 295, 761, 762, 763, 764, 765, 766, 767, 768, 769, 770, 771, 772, 773, 774] (by decide +kernel) (by decide +kernel)
set_option maxRecDepth 20000 in
theorem gL_law_X7_draw : GoodIn wsL_law (wsV RL 35 RX7 yX7_draw wsX7_draw) := goodIn_app (goodIn_of _ (by decide +kernel)) ggL_law_X7_draw
set_option maxRecDepth 20000 in
theorem ggL_law_X6_count : GoodIn wsL_law wsX6_count := goodIn_r _ [299, 16, 300, 22, 225, 301, 182, 183, 15, 184, 93, 244, 245, 246, 247, 111, 248, 249, 250, 251, 43, 302, 186, 2, 187, 97, 98, 99, 21, 100, 101, 57, 102, 103, 104, 105, 106, 107, 108, 109, 40, 45, 46, 94, 110, 47, 48, 112, 113, 114, 42, 115, 116, 117, 118, 119, 120, 303, 269, 270, 271, 754, 755, 756, 757, 758, 759, 760, 775, 776, 777, 778, 779, 780, 781, 782, 783, 784, 785, 786, 794, 795, 796, 797, 798] (by decide +kernel) (by decide +kernel)
set_option maxRecDepth 20000 in
theorem gL_law_X6_count : GoodIn wsL_law (wsV RL 36 RX6 yX6_count wsX6_count) := goodIn_app (goodIn_of _ (by decide +kernel)) ggL_law_X6_count
set_option maxRecDepth 20000 in
theorem ggL_law_X7_count : GoodIn wsL_law wsX7_count := goodIn_r _ [307, 76, 205, 206, 207, 5, 208, 159, 160, 161, 276, 277, 278, 279, 280, 281, 282, 283, 213, 214, 215, 216, 217, 218, 219, 220, 166, 167, 168, 169, 170, 171, 77, 292, 293, 294, 295, 761, 762, 763, 764, 765, 766, 767, 768, 769, 770, 771, 772, 773, 774] (by decide +kernel) (by decide +kernel)
set_option maxRecDepth 20000 in
theorem gL_law_X7_count : GoodIn wsL_law (wsV RL 39 RX7 yX7_count wsX7_count) := goodIn_app (goodIn_of _ (by decide +kernel)) ggL_law_X7_count
set_option maxRecDepth 20000 in
theorem ggL_law_X6_finish : GoodIn wsL_law wsX6_finish := goodIn_r _ [311, 16, 17, 22, 312, 244, 245, 246, 15, 247, 111, 248, 249, 250, 251, 43, 313, 107, 108, 109, 40, 45, 46, 93, 94, 110, 47, 48, 112, 113, 114, 42, 115, 116, 117, 118, 119, 120, 314, 315, 316, 317, 318, 319, 320, 321, 322, 323, 324, 325, 326, 327, 328, 329, 186, 2, 187, 192, 193, 194, 195, 134, 135, 136, 137, 330, 331, 332, 333, 334, 335, 336, 337, 142, 143, 144, 145, 146, 147, 148, 149, 150, 338, 339, 340, 341, 342, 343, 344, 345, 346, 347, 348, 349, 350, 351, 352, 353, 354, 355, 356, 357, 358, 359, 360, 257, 258, 259, 260, 261, 262, 263, 264, 265, 266, 267, 268, 269, 270, 271, 361, 97, 98, 99, 21, 100, 101, 57, 102, 103, 104, 105, 106, 754, 755, 756, 757, 758, 759, 760, 775, 776, 777, 778, 779, 780, 781, 782, 783, 784, 794, 795, 796, 797, 798, 785, 786] (by decide +kernel) (by decide +kernel)
set_option maxRecDepth 20000 in
theorem gL_law_X6_finish : GoodIn wsL_law (wsV RL 40 RX6 yX6_finish wsX6_finish) := goodIn_app (goodIn_of _ (by decide +kernel)) ggL_law_X6_finish
set_option maxRecDepth 20000 in
theorem ggL_law_X7_finish : GoodIn wsL_law wsX7_finish := goodIn_r _ [365, 76, 276, 277, 278, 5, 279, 280, 281, 282, 283, 213, 214, 215, 216, 366, 367, 368, 369, 81, 370, 371, 372, 373, 374, 375, 376, 377, 378, 379, 380, 381, 382, 383, 384, 385, 217, 218, 219, 220, 386, 387, 388, 389, 390, 391, 392, 393, 394, 395, 396, 397, 398, 399, 400, 401, 402, 403, 404, 405, 406, 407, 408, 409, 410, 411, 412, 413, 414, 415, 416, 417, 418, 419, 420, 421, 422, 423, 424, 425, 426, 427, 428, 429, 430, 431, 432, 209, 210, 211, 212, 433, 434, 435, 436, 437, 438, 439, 440, 441, 442, 284, 285, 286, 287, 288, 289, 290, 291, 292, 293, 294, 295, 443, 444, 445, 446, 166, 167, 168, 169, 170, 171, 77, 761, 762, 763, 764, 765, 766, 767, 768, 769, 770, 771, 772, 773, 774] (by decide +kernel) (by decide +kernel)
set_option maxRecDepth 20000 in
theorem gL_law_X7_finish : GoodIn wsL_law (wsV RL 43 RX7 yX7_finish wsX7_finish) := goodIn_app (goodIn_of _ (by decide +kernel)) ggL_law_X7_finish
set_option maxRecDepth 20000 in
theorem ggL_law_X6_stop : GoodIn wsL_law wsX6_stop := goodIn_r _ [450, 16, 22, 312, 244, 245, 246, 15, 247, 111, 248, 249, 250, 251, 43, 361, 319, 320, 321, 110, 47, 322, 323, 324, 325, 93, 326, 327, 328, 329, 40, 186, 2, 187, 192, 193, 194, 42, 195, 119, 120, 134, 135, 136, 137, 116, 117, 330, 331, 332, 333, 334, 335, 336, 337, 45, 142, 143, 144, 145, 146, 147, 148, 149, 150, 118, 338, 339, 340, 341, 342, 343, 344, 345, 346, 347, 348, 349, 350, 351, 352, 353, 354, 355, 356, 357, 358, 359, 97, 98, 99, 21, 100, 101, 57, 102, 103, 104, 105, 106, 107, 108, 109, 46, 94, 48, 112, 113, 114, 115, 451, 452, 453, 454, 754, 755, 756, 757, 758, 759, 760, 775, 776, 777, 778, 779, 780, 781, 782, 783, 784, 794, 795, 796, 797, 798, 785, 786] (by decide +kernel) (by decide +kernel)
set_option maxRecDepth 20000 in
theorem gL_law_X6_stop : GoodIn wsL_law (wsV RL 44 RX6 yX6_stop wsX6_stop) := goodIn_app (goodIn_of _ (by decide +kernel)) ggL_law_X6_stop
