set_option maxRecDepth 20000 in
theorem ggL_law_X7_stop : GoodIn wsL_law wsX7_stop := goodIn_r _ [458, 76, 276, 277, 278, 5, 279, 280, 281, 282, 283, 213, 214, 215, 216, 374, 375, 376, 377, 378, 379, 380, 381, 382, 383, 384, 385, 217, 218, 219, 220, 386, 387, 388, 389, 390, 391, 392, 393, 394, 395, 396, 397, 398, 399, 400, 401, 402, 403, 404, 405, 406, 407, 408, 409, 410, 411, 412, 413, 414, 415, 416, 417, 418, 419, 420, 421, 422, 423, 424, 425, 426, 427, 428, 429, 430, 431, 432, 209, 210, 211, 212, 433, 434, 435, 436, 437, 438, 439, 440, 441, 442, 166, 167, 168, 169, 170, 171, 77, 459, 460, 461, 462, 761, 762, 763, 764, 765, 766, 767, 768, 769, 770, 771, 772, 773, 774] (by decide +kernel) (by decide +kernel)
set_option maxRecDepth 20000 in
theorem gL_law_X7_stop : GoodIn wsL_law (wsV RL 47 RX7 yX7_stop wsX7_stop) := goodIn_app (goodIn_of _ (by decide +kernel)) ggL_law_X7_stop
set_option maxRecDepth 20000 in
theorem ggL_law_X6_ofPile : GoodIn wsL_law wsX6_ofPile := goodIn_r _ [466, 16, 467, 300, 468, 469, 470, 471, 472, 473, 301, 182, 183, 15, 184, 93, 302, 186, 2, 187, 474, 148, 149, 42, 150, 116, 117, 118, 475, 476, 477, 478, 94, 46, 479, 343, 344, 345, 346, 193, 194, 195, 119, 120, 146, 135, 136, 137, 480, 249, 250, 251, 43, 481, 143, 144, 145, 147, 754, 755, 756, 757, 758, 759, 760, 775, 776, 777, 778, 779, 780, 781, 782, 783, 784, 794, 795, 796, 797, 798] (by decide +kernel) (by decide +kernel)
set_option maxRecDepth 20000 in
theorem gL_law_X6_ofPile : GoodIn wsL_law (wsV RL 48 RX6 yX6_ofPile wsX6_ofPile) := goodIn_app (goodIn_of _ (by decide +kernel)) ggL_law_X6_ofPile
set_option maxRecDepth 20000 in
theorem ggL_law_X7_ofPile : GoodIn wsL_law wsX7_ofPile := goodIn_r _ [485, 205, 206, 207, 5, 208, 76, 159, 160, 161, 217, 218, 219, 220, 213, 214, 215, 216, 209, 210, 211, 212, 409, 410, 411, 412, 405, 406, 407, 408, 280, 281, 282, 283, 401, 402, 403, 404, 429, 430, 431, 432, 761, 762, 763, 764, 765, 766, 767, 768, 769, 770, 771, 772, 773, 774] (by decide +kernel) (by decide +kernel)
set_option maxRecDepth 20000 in
theorem gL_law_X7_ofPile : GoodIn wsL_law (wsV RL 52 RX7 yX7_ofPile wsX7_ofPile) := goodIn_app (goodIn_of _ (by decide +kernel)) ggL_law_X7_ofPile
set_option maxRecDepth 20000 in
theorem ggL_law_X6_state : GoodIn wsL_law wsX6_state := goodIn_r _ [489, 16, 490, 225, 473, 176, 300, 312, 226, 235, 26, 491, 22, 492, 480, 249, 250, 15, 251, 43, 493, 327, 328, 329, 93, 40, 186, 2, 187, 192, 193, 194, 42, 195, 119, 120, 134, 135, 136, 137, 116, 117, 494, 495, 496, 497, 110, 326, 334, 335, 336, 337, 45, 142, 143, 144, 145, 146, 147, 148, 149, 150, 118, 498, 323, 324, 325, 248, 330, 331, 332, 333, 338, 339, 340, 341, 342, 343, 344, 345, 346, 347, 348, 349, 350, 351, 352, 353, 354, 355, 356, 357, 358, 359, 499, 361, 319, 320, 321, 47, 322, 754, 755, 756, 757, 758, 759, 760, 775, 776, 777, 778, 779, 780, 781, 782, 783, 784, 787, 788, 785, 786, 794, 795, 796, 797, 798] (by decide +kernel) (by decide +kernel)
set_option maxRecDepth 20000 in
theorem gL_law_X6_state : GoodIn wsL_law (wsV RL 53 RX6 yX6_state wsX6_state) := goodIn_app (goodIn_of _ (by decide +kernel)) ggL_law_X6_state
set_option maxRecDepth 20000 in
theorem ggL_law_X7_state : GoodIn wsL_law wsX7_state := goodIn_r _ [503, 76, 204, 504, 170, 280, 281, 282, 5, 283, 213, 214, 215, 216, 390, 391, 392, 393, 394, 395, 396, 397, 398, 399, 400, 217, 218, 219, 220, 401, 402, 403, 404, 405, 406, 407, 408, 409, 410, 411, 412, 382, 383, 384, 385, 505, 506, 507, 508, 421, 422, 423, 424, 425, 426, 427, 428, 429, 430, 431, 432, 209, 210, 211, 212, 433, 434, 435, 378, 379, 380, 381, 386, 387, 388, 389, 413, 414, 415, 416, 417, 418, 419, 420, 436, 437, 438, 439, 440, 441, 442, 374, 375, 376, 377, 761, 762, 763, 764, 765, 766, 767, 768, 769, 770, 771, 772, 773, 774] (by decide +kernel) (by decide +kernel)
set_option maxRecDepth 20000 in
theorem gL_law_X7_state : GoodIn wsL_law (wsV RL 56 RX7 yX7_state wsX7_state) := goodIn_app (goodIn_of _ (by decide +kernel)) ggL_law_X7_state
set_option maxRecDepth 20000 in
theorem ggL_law_X6_counted : GoodIn wsL_law wsX6_counted := goodIn_r _ [512, 16, 225, 513, 754, 755, 756, 757, 758, 759, 760, 775, 776, 777, 778, 779, 780, 781, 782, 783, 784] (by decide +kernel) (by decide +kernel)
set_option maxRecDepth 20000 in
theorem gL_law_X6_counted : GoodIn wsL_law (wsV RL 57 RX6 yX6_counted wsX6_counted) := goodIn_app (goodIn_of _ (by decide +kernel)) ggL_law_X6_counted
set_option maxRecDepth 20000 in
theorem ggL_law_X7_counted : GoodIn wsL_law wsX7_counted := goodIn_r _ [517, 76, 217, 218, 219, 5, 220, 213, 214, 215, 216, 761, 762, 763, 764, 765, 766, 767, 768, 769, 770, 771, 772, 773, 774] (by decide +kernel) (by decide +kernel)
set_option maxRecDepth 20000 in
theorem gL_law_X7_counted : GoodIn wsL_law (wsV RL 60 RX7 yX7_counted wsX7_counted) := goodIn_app (goodIn_of _ (by decide +kernel)) ggL_law_X7_counted
set_option maxRecDepth 20000 in
theorem ggL_law_X6_riskOf : GoodIn wsL_law wsX6_riskOf := goodIn_r _ [521, 522, 354, 2, 355, 356, 357, 358, 359] (by decide +kernel) (by decide +kernel)
set_option maxRecDepth 20000 in
theorem gL_law_X6_riskOf : GoodIn wsL_law (wsV RL 61 RX6 yX6_riskOf wsX6_riskOf) := goodIn_app (goodIn_of _ (by decide +kernel)) ggL_law_X6_riskOf
set_option maxRecDepth 20000 in
theorem ggL_law_X7_riskOf : GoodIn wsL_law wsX7_riskOf := goodIn_r _ [526, 159, 160, 5, 161, 436, 437, 438, 439, 440, 441, 442] (by decide +kernel) (by decide +kernel)
set_option maxRecDepth 20000 in
theorem gL_law_X7_riskOf : GoodIn wsL_law (wsV RL 64 RX7 yX7_riskOf wsX7_riskOf) := goodIn_app (goodIn_of _ (by decide +kernel)) ggL_law_X7_riskOf
set_option maxRecDepth 20000 in
theorem ggL_law_X6_atLeast : GoodIn wsL_law wsX6_atLeast := goodIn_r _ [530, 16, 480, 249, 250, 15, 251, 43, 531, 532, 533, 534, 110, 47, 93, 94, 330, 331, 332, 333, 322, 323, 324, 325, 248, 326, 327, 328, 329, 40, 186, 2, 187, 192, 193, 194, 42, 195, 119, 120, 134, 135, 136, 137, 116, 117, 334, 335, 336, 337, 45, 142, 143, 144, 145, 146, 147, 148, 149, 150, 118, 338, 339, 340, 341, 342, 343, 344, 345, 346, 347, 348, 349, 350, 351, 352, 353, 354, 355, 356, 357, 358, 359, 754, 755, 756, 757, 758, 759, 760, 775, 776, 777, 778, 779, 780, 781, 782, 783, 784, 794, 795, 796, 797, 798] (by decide +kernel) (by decide +kernel)
set_option maxRecDepth 20000 in
theorem gL_law_X6_atLeast : GoodIn wsL_law (wsV RL 65 RX6 yX6_atLeast wsX6_atLeast) := goodIn_app (goodIn_of _ (by decide +kernel)) ggL_law_X6_atLeast
set_option maxRecDepth 20000 in
theorem ggL_law_X7_atLeast : GoodIn wsL_law wsX7_atLeast := goodIn_r _ [538, 76, 280, 281, 282, 5, 283, 213, 214, 215, 216, 539, 540, 541, 542, 382, 383, 384, 385, 217, 218, 219, 220, 413, 414, 415, 416, 433, 434, 435, 386, 387, 388, 389, 390, 391, 392, 393, 394, 395, 396, 397, 398, 399, 400, 401, 402, 403, 404, 405, 406, 407, 408, 409, 410, 411, 412, 417, 418, 419, 420, 421, 422, 423, 424, 425, 426, 427, 428, 429, 430, 431, 432, 209, 210, 211, 212, 436, 437, 438, 439, 440, 441, 442, 761, 762, 763, 764, 765, 766, 767, 768, 769, 770, 771, 772, 773, 774] (by decide +kernel) (by decide +kernel)
set_option maxRecDepth 20000 in
theorem gL_law_X7_atLeast : GoodIn wsL_law (wsV RL 68 RX7 yX7_atLeast wsX7_atLeast) := goodIn_app (goodIn_of _ (by decide +kernel)) ggL_law_X7_atLeast
set_option maxRecDepth 20000 in
theorem ggL_law_X6_orders : GoodIn wsL_law wsX6_orders := goodIn_r _ [546, 16, 34, 547, 480, 249, 250, 15, 251, 43, 548, 549, 550, 33, 551, 70, 71, 552, 553, 554, 555, 556, 331, 332, 333, 93, 557, 558, 559, 560, 561, 562, 563, 564, 565, 323, 324, 325, 248, 326, 327, 328, 329, 40, 186, 2, 187, 192, 193, 194, 42, 195, 119, 120, 134, 135, 136, 137, 116, 117, 330, 334, 335, 336, 337, 45, 142, 143, 144, 145, 146, 147, 148, 149, 150, 118, 338, 339, 340, 341, 342, 343, 344, 345, 346, 347, 348, 349, 350, 351, 352, 353, 354, 355, 356, 357, 358, 359, 566, 567, 568, 754, 755, 756, 757, 758, 759, 760, 792, 793, 775, 776, 777, 778, 779, 780, 781, 782, 783, 784, 794, 795, 796, 797, 798] (by decide +kernel) (by decide +kernel)
set_option maxRecDepth 20000 in
theorem gL_law_X6_orders : GoodIn wsL_law (wsV RL 69 RX6 yX6_orders wsX6_orders) := goodIn_app (goodIn_of _ (by decide +kernel)) ggL_law_X6_orders
set_option maxRecDepth 20000 in
theorem ggL_law_X7_orders : GoodIn wsL_law wsX7_orders := goodIn_r _ [572, 159, 160, 5, 161, 280, 281, 282, 283, 76, 213, 214, 215, 216, 573, 574, 575, 576, 82, 382, 383, 384, 385, 217, 218, 219, 220, 433, 434, 435, 413, 414, 415, 416, 386, 387, 388, 389, 390, 391, 392, 393, 394, 395, 396, 397, 398, 399, 400, 401, 402, 403, 404, 405, 406, 407, 408, 409, 410, 411, 412, 417, 418, 419, 420, 421, 422, 423, 424, 425, 426, 427, 428, 429, 430, 431, 432, 209, 210, 211, 212, 436, 437, 438, 439, 440, 441, 442, 577, 578, 579, 761, 762, 763, 764, 765, 766, 767, 768, 769, 770, 771, 772, 773, 774] (by decide +kernel) (by decide +kernel)
set_option maxRecDepth 20000 in
theorem gL_law_X7_orders : GoodIn wsL_law (wsV RL 72 RX7 yX7_orders wsX7_orders) := goodIn_app (goodIn_of _ (by decide +kernel)) ggL_law_X7_orders
set_option maxRecDepth 20000 in
theorem ggL_law_X6_wrongOrders : GoodIn wsL_law wsX6_wrongOrders := goodIn_r _ [583, 16, 34, 480, 249, 250, 15, 251, 43, 451, 452, 453, 454, 330, 331, 332, 333, 93, 326, 327, 328, 329, 40, 186, 2, 187, 192, 193, 194, 42, 195, 119, 120, 134, 135, 136, 137, 116, 117, 548, 549, 550, 33, 551, 70, 71, 552, 553, 554, 555, 556, 557, 558, 559, 560, 561, 562, 563, 564, 565, 323, 324, 325, 248, 334, 335, 336, 337, 45, 142, 143, 144, 145, 146, 147, 148, 149, 150, 118, 338, 339, 340, 341, 342, 343, 344, 345, 346, 347, 348, 349, 350, 351, 352, 353, 354, 355, 356, 357, 358, 359, 566, 567, 568, 584, 585, 586, 587, 754, 755, 756, 757, 758, 759, 760, 775, 776, 777, 778, 779, 780, 781, 782, 783, 784, 794, 795, 796, 797, 798, 792, 793] (by decide +kernel) (by decide +kernel)
set_option maxRecDepth 20000 in
theorem gL_law_X6_wrongOrders : GoodIn wsL_law (wsV RL 73 RX6 yX6_wrongOrders wsX6_wrongOrders) := goodIn_app (goodIn_of _ (by decide +kernel)) ggL_law_X6_wrongOrders
set_option maxRecDepth 20000 in
theorem ggL_law_X7_wrongOrders : GoodIn wsL_law wsX7_wrongOrders := goodIn_r _ [591, 280, 281, 282, 5, 283, 76, 213, 214, 215, 216, 459, 460, 461, 462, 413, 414, 415, 416, 390, 391, 392, 393, 394, 395, 396, 397, 398, 399, 400, 217, 218, 219, 220, 401, 402, 403, 404, 405, 406, 407, 408, 409, 410, 411, 412, 573, 574, 575, 576, 82, 382, 383, 384, 385, 433, 434, 435, 386, 387, 388, 389, 417, 418, 419, 420, 421, 422, 423, 424, 425, 426, 427, 428, 429, 430, 431, 432, 209, 210, 211, 212, 436, 437, 438, 439, 440, 441, 442, 577, 578, 579, 761, 762, 763, 764, 765, 766, 767, 768, 769, 770, 771, 772, 773, 774] (by decide +kernel) (by decide +kernel)
set_option maxRecDepth 20000 in
theorem gL_law_X7_wrongOrders : GoodIn wsL_law (wsV RL 76 RX7 yX7_wrongOrders wsX7_wrongOrders) := goodIn_app (goodIn_of _ (by decide +kernel)) ggL_law_X7_wrongOrders
set_option maxRecDepth 20000 in
theorem ggL_law_X6_suspects : GoodIn wsL_law wsX6_suspects := goodIn_r _ [595, 16, 480, 249, 250, 15, 251, 43, 494, 495, 496, 497, 110, 326, 327, 328, 329, 93, 40, 186, 2, 187, 192, 193, 194, 42, 195, 119, 120, 134, 135, 136, 137, 116, 117, 334, 335, 336, 337, 45, 142, 143, 144, 145, 146, 147, 148, 149, 150, 118, 596, 597, 598, 599, 754, 755, 756, 757, 758, 759, 760, 775, 776, 777, 778, 779, 780, 781, 782, 783, 784, 794, 795, 796, 797, 798] (by decide +kernel) (by decide +kernel)
set_option maxRecDepth 20000 in
theorem gL_law_X6_suspects : GoodIn wsL_law (wsV RL 77 RX6 yX6_suspects wsX6_suspects) := goodIn_app (goodIn_of _ (by decide +kernel)) ggL_law_X6_suspects
set_option maxRecDepth 20000 in
theorem ggL_law_X7_suspects : GoodIn wsL_law wsX7_suspects := goodIn_r _ [603, 382, 383, 384, 5, 385, 76, 217, 218, 219, 220, 213, 214, 215, 216, 280, 281, 282, 283, 604, 605, 606, 607, 390, 391, 392, 393, 394, 395, 396, 397, 398, 399, 400, 401, 402, 403, 404, 405, 406, 407, 408, 409, 410, 411, 412, 421, 422, 423, 424, 425, 426, 427, 428, 429, 430, 431, 432, 209, 210, 211, 212, 761, 762, 763, 764, 765, 766, 767, 768, 769, 770, 771, 772, 773, 774] (by decide +kernel) (by decide +kernel)
set_option maxRecDepth 20000 in
theorem gL_law_X7_suspects : GoodIn wsL_law (wsV RL 80 RX7 yX7_suspects wsX7_suspects) := goodIn_app (goodIn_of _ (by decide +kernel)) ggL_law_X7_suspects
