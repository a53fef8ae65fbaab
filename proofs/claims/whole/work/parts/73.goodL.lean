set_option maxRecDepth 20000 in
theorem ggL_law_X3_init : GoodIn wsL_law wsX3_init := goodIn_r _ [9, 10, 11, 12, 13, 14, 15, 16, 17, 18, 19, 20, 21, 22, 23, 24, 25, 26, 27, 28, 29, 30, 31, 32, 33, 34, 35, 36, 37, 38, 39, 40, 41, 42, 43, 44, 45, 46, 47, 48, 49, 50, 51, 52, 53, 54, 55, 56, 57, 58, 59, 60, 61, 62, 63, 64, 65, 66, 67, 676, 677, 678, 679, 680, 681, 682, 683, 684, 685, 686, 687, 688, 689, 690, 664, 665, 666, 667, 668, 691, 692, 693, 694, 695, 696, 697, 698, 699, 700] (by decide +kernel) (by decide +kernel)
set_option maxRecDepth 20000 in
theorem gL_law_X3_init : GoodIn wsL_law (wsX3_init) := ggL_law_X3_init
set_option maxRecDepth 20000 in
theorem ggL_law_X4_init : GoodIn wsL_law wsX4_init := goodIn_r _ [70, 71, 11, 12, 32, 72, 73, 74, 26, 75, 76, 77, 78, 5, 79, 80, 81, 82, 669, 670, 671, 672, 673, 674, 675] (by decide +kernel) (by decide +kernel)
set_option maxRecDepth 20000 in
theorem gL_law_X4_init : GoodIn wsL_law (wsX4_init) := ggL_law_X4_init
set_option maxRecDepth 20000 in
theorem ggL_law_X3_set : GoodIn wsL_law wsX3_set := goodIn_r _ [86, 20, 16, 87, 88, 89, 19, 90, 53, 54, 91, 92, 93, 15, 94, 33, 95, 96, 97, 98, 34, 35, 36, 37, 38, 39, 40, 41, 42, 43, 44, 45, 46, 47, 99, 100, 101, 102, 103, 104, 105, 106, 107, 2, 108, 109, 110, 111, 112, 664, 665, 666, 667, 668, 691, 692, 676, 677, 678, 679, 680, 681, 682, 683, 684, 685, 686, 687, 688, 689, 690] (by decide +kernel) (by decide +kernel)
set_option maxRecDepth 20000 in
theorem gL_law_X3_set : GoodIn wsL_law (wsV RL 13 RX3 yX3_set wsX3_set) := goodIn_app (goodIn_of _ (by decide +kernel)) ggL_law_X3_set
set_option maxRecDepth 20000 in
theorem ggL_law_X4_set : GoodIn wsL_law wsX4_set := goodIn_r _ [116, 72, 117, 118, 5, 119, 120, 121, 122, 123, 124, 125, 126, 127, 73, 669, 670, 671, 672, 673, 674, 675] (by decide +kernel) (by decide +kernel)
set_option maxRecDepth 20000 in
theorem gL_law_X4_set : GoodIn wsL_law (wsV RL 17 RX4 yX4_set wsX4_set) := goodIn_app (goodIn_of _ (by decide +kernel)) ggL_law_X4_set
set_option maxRecDepth 20000 in
theorem ggL_law_X3_mark : GoodIn wsL_law wsX3_mark := goodIn_r _ [131, 20, 16, 87, 88, 89, 19, 90, 53, 54, 91, 92, 93, 15, 94, 33, 95, 96, 97, 98, 34, 35, 36, 37, 38, 39, 40, 41, 42, 43, 44, 45, 46, 47, 132, 133, 134, 135, 136, 137, 138, 139, 140, 141, 142, 143, 144, 145, 146, 147, 148, 149, 150, 151, 152, 153, 154, 155, 156, 157, 158, 159, 160, 105, 106, 107, 2, 108, 109, 110, 111, 112, 664, 665, 666, 667, 668, 691, 692, 676, 677, 678, 679, 680, 681, 682, 683, 684, 685, 686, 687, 688, 689, 690] (by decide +kernel) (by decide +kernel)
set_option maxRecDepth 20000 in
theorem gL_law_X3_mark : GoodIn wsL_law (wsV RL 18 RX3 yX3_mark wsX3_mark) := goodIn_app (goodIn_of _ (by decide +kernel)) ggL_law_X3_mark
set_option maxRecDepth 20000 in
theorem ggL_law_X4_mark : GoodIn wsL_law wsX4_mark := goodIn_r _ [164, 165, 166, 167, 5, 168, 72, 169, 170, 171, 120, 121, 122, 172, 173, 174, 175, 176, 177, 178, 77, 78, 79, 179, 180, 181, 182, 183, 184, 185, 186, 187, 188, 189, 123, 124, 125, 126, 127, 73, 190, 191, 192, 193, 669, 670, 671, 672, 673, 674, 675] (by decide +kernel) (by decide +kernel)
set_option maxRecDepth 20000 in
theorem gL_law_X4_mark : GoodIn wsL_law (wsV RL 22 RX4 yX4_mark wsX4_mark) := goodIn_app (goodIn_of _ (by decide +kernel)) ggL_law_X4_mark
set_option maxRecDepth 20000 in
theorem ggL_law_X3_argue : GoodIn wsL_law wsX3_argue := goodIn_r _ [197, 20, 16, 87, 88, 89, 19, 90, 53, 54, 91, 92, 93, 15, 94, 33, 95, 96, 97, 98, 34, 35, 36, 37, 38, 39, 40, 41, 42, 43, 44, 45, 46, 47, 198, 199, 200, 201, 136, 137, 138, 139, 140, 141, 142, 143, 144, 145, 158, 159, 160, 105, 106, 107, 2, 108, 109, 110, 111, 112, 664, 665, 666, 667, 668, 691, 692, 676, 677, 678, 679, 680, 681, 682, 683, 684, 685, 686, 687, 688, 689, 690] (by decide +kernel) (by decide +kernel)
set_option maxRecDepth 20000 in
theorem gL_law_X3_argue : GoodIn wsL_law (wsV RL 23 RX3 yX3_argue wsX3_argue) := goodIn_app (goodIn_of _ (by decide +kernel)) ggL_law_X3_argue
set_option maxRecDepth 20000 in
theorem ggL_law_X4_argue : GoodIn wsL_law wsX4_argue := goodIn_r _ [205, 206, 207, 208, 5, 209, 72, 169, 170, 171, 120, 121, 122, 172, 173, 174, 179, 180, 181, 182, 77, 78, 79, 183, 184, 185, 80, 81, 82, 123, 124, 125, 126, 127, 73, 210, 211, 212, 213, 190, 191, 192, 193, 669, 670, 671, 672, 673, 674, 675] (by decide +kernel) (by decide +kernel)
set_option maxRecDepth 20000 in
theorem gL_law_X4_argue : GoodIn wsL_law (wsV RL 26 RX4 yX4_argue wsX4_argue) := goodIn_app (goodIn_of _ (by decide +kernel)) ggL_law_X4_argue
set_option maxRecDepth 20000 in
theorem ggL_law_X3_round : GoodIn wsL_law wsX3_round := goodIn_r _ [217, 20, 16, 87, 88, 89, 19, 90, 53, 54, 91, 92, 93, 15, 94, 33, 95, 96, 97, 98, 34, 35, 36, 37, 38, 39, 40, 41, 42, 43, 44, 45, 46, 47, 218, 219, 220, 221, 222, 223, 152, 224, 225, 226, 227, 228, 229, 230, 231, 232, 233, 234, 235, 236, 237, 238, 239, 240, 241, 242, 243, 244, 245, 246, 247, 248, 249, 250, 251, 142, 143, 144, 145, 105, 106, 107, 2, 108, 109, 110, 111, 112, 664, 665, 666, 667, 668, 691, 692, 676, 677, 678, 679, 680, 681, 682, 683, 684, 685, 686, 687, 688, 689, 690] (by decide +kernel) (by decide +kernel)
set_option maxRecDepth 20000 in
theorem gL_law_X3_round : GoodIn wsL_law (wsV RL 27 RX3 yX3_round wsX3_round) := goodIn_app (goodIn_of _ (by decide +kernel)) ggL_law_X3_round
set_option maxRecDepth 20000 in
theorem ggL_law_X4_round : GoodIn wsL_law wsX4_round := goodIn_r _ [255, 72, 123, 124, 125, 5, 126, 127, 73, 256, 257, 258, 259, 175, 176, 177, 178, 77, 78, 79, 260, 261, 262, 263, 264, 265, 266, 267, 268, 269, 270, 271, 179, 180, 181, 182, 183, 184, 185, 272, 273, 274, 80, 81, 82, 669, 670, 671, 672, 673, 674, 675] (by decide +kernel) (by decide +kernel)
set_option maxRecDepth 20000 in
theorem gL_law_X4_round : GoodIn wsL_law (wsV RL 31 RX4 yX4_round wsX4_round) := goodIn_app (goodIn_of _ (by decide +kernel)) ggL_law_X4_round
set_option maxRecDepth 20000 in
theorem ggL_law_X3_print : GoodIn wsL_law wsX3_print := goodIn_r _ [278, 20, 16, 87, 88, 89, 19, 90, 53, 54, 91, 92, 93, 15, 94, 33, 95, 96, 97, 98, 34, 35, 36, 37, 38, 39, 40, 41, 42, 43, 44, 45, 46, 47, 279, 280, 281, 282, 139, 140, 141, 283, 284, 285, 105, 106, 107, 2, 108, 109, 110, 111, 112, 664, 665, 666, 667, 668, 691, 692, 676, 677, 678, 679, 680, 681, 682, 683, 684, 685, 686, 687, 688, 689, 690] (by decide +kernel) (by decide +kernel)
set_option maxRecDepth 20000 in
theorem gL_law_X3_print : GoodIn wsL_law (wsV RL 32 RX3 yX3_print wsX3_print) := goodIn_app (goodIn_of _ (by decide +kernel)) ggL_law_X3_print
set_option maxRecDepth 20000 in
theorem ggL_law_X4_print : GoodIn wsL_law wsX4_print := goodIn_r _ [289, 290, 291, 292, 5, 293, 72, 172, 173, 174, 120, 121, 122, 77, 78, 79, 294, 295, 296, 123, 124, 125, 126, 127, 73, 297, 298, 299, 300, 669, 670, 671, 672, 673, 674, 675] (by decide +kernel) (by decide +kernel)
set_option maxRecDepth 20000 in
theorem gL_law_X4_print : GoodIn wsL_law (wsV RL 35 RX4 yX4_print wsX4_print) := goodIn_app (goodIn_of _ (by decide +kernel)) ggL_law_X4_print
set_option maxRecDepth 20000 in
theorem ggL_law_X3_buy : GoodIn wsL_law wsX3_buy := goodIn_r _ [304, 20, 16, 87, 88, 89, 19, 90, 53, 54, 91, 92, 93, 15, 94, 33, 95, 96, 97, 98, 34, 35, 36, 37, 38, 39, 40, 41, 42, 43, 44, 45, 46, 47, 305, 306, 307, 308, 222, 223, 152, 224, 105, 106, 107, 2, 108, 109, 110, 111, 112, 664, 665, 666, 667, 668, 691, 692, 676, 677, 678, 679, 680, 681, 682, 683, 684, 685, 686, 687, 688, 689, 690] (by decide +kernel) (by decide +kernel)
set_option maxRecDepth 20000 in
theorem gL_law_X3_buy : GoodIn wsL_law (wsV RL 36 RX3 yX3_buy wsX3_buy) := goodIn_app (goodIn_of _ (by decide +kernel)) ggL_law_X3_buy
set_option maxRecDepth 20000 in
theorem ggL_law_X4_buy : GoodIn wsL_law wsX4_buy := goodIn_r _ [312, 120, 121, 5, 122, 123, 124, 125, 126, 127, 73, 72, 313, 314, 315, 316, 669, 670, 671, 672, 673, 674, 675] (by decide +kernel) (by decide +kernel)
set_option maxRecDepth 20000 in
theorem gL_law_X4_buy : GoodIn wsL_law (wsV RL 40 RX4 yX4_buy wsX4_buy) := goodIn_app (goodIn_of _ (by decide +kernel)) ggL_law_X4_buy
set_option maxRecDepth 20000 in
theorem ggL_law_X3_reopen : GoodIn wsL_law wsX3_reopen := goodIn_r _ [320, 20, 16, 87, 88, 89, 19, 90, 53, 54, 91, 92, 93, 15, 94, 33, 95, 96, 97, 98, 34, 35, 36, 37, 38, 39, 40, 41, 42, 43, 44, 45, 46, 47, 321, 322, 323, 324, 139, 140, 141, 105, 106, 107, 2, 108, 109, 110, 111, 112, 664, 665, 666, 667, 668, 691, 692, 676, 677, 678, 679, 680, 681, 682, 683, 684, 685, 686, 687, 688, 689, 690] (by decide +kernel) (by decide +kernel)
set_option maxRecDepth 20000 in
theorem gL_law_X3_reopen : GoodIn wsL_law (wsV RL 41 RX3 yX3_reopen wsX3_reopen) := goodIn_app (goodIn_of _ (by decide +kernel)) ggL_law_X3_reopen
set_option maxRecDepth 20000 in
theorem ggL_law_X4_reopen : GoodIn wsL_law wsX4_reopen := goodIn_r _ [328, 72, 172, 173, 5, 174, 120, 121, 122, 77, 78, 79, 123, 124, 125, 126, 127, 73, 669, 670, 671, 672, 673, 674, 675] (by decide +kernel) (by decide +kernel)
set_option maxRecDepth 20000 in
theorem gL_law_X4_reopen : GoodIn wsL_law (wsV RL 44 RX4 yX4_reopen wsX4_reopen) := goodIn_app (goodIn_of _ (by decide +kernel)) ggL_law_X4_reopen
set_option maxRecDepth 20000 in
theorem ggL_law_X3_of : GoodIn wsL_law wsX3_of := goodIn_r _ [332, 16, 333, 334, 335, 15, 336, 34, 35, 36, 37, 38, 39, 139, 140, 141, 664, 665, 666, 667, 668, 676, 677, 678, 679, 680, 681, 682, 683, 684, 685, 686, 687, 688, 689, 690] (by decide +kernel) (by decide +kernel)
set_option maxRecDepth 20000 in
theorem gL_law_X3_of : GoodIn wsL_law (wsV RL 45 RX3 yX3_of wsX3_of) := goodIn_app (goodIn_of _ (by decide +kernel)) ggL_law_X3_of
set_option maxRecDepth 20000 in
theorem ggL_law_X4_of : GoodIn wsL_law wsX4_of := goodIn_r _ [340, 72, 172, 173, 5, 174, 120, 121, 122, 77, 78, 79, 268, 269, 270, 271, 179, 180, 181, 182, 183, 184, 185, 669, 670, 671, 672, 673, 674, 675] (by decide +kernel) (by decide +kernel)
set_option maxRecDepth 20000 in
theorem gL_law_X4_of : GoodIn wsL_law (wsV RL 48 RX4 yX4_of wsX4_of) := goodIn_app (goodIn_of _ (by decide +kernel)) ggL_law_X4_of
set_option maxRecDepth 20000 in
theorem ggL_law_X3_editor : GoodIn wsL_law wsX3_editor := goodIn_r _ [344, 16, 345, 346, 347, 15, 348, 40, 41, 42, 43, 136, 137, 138, 154, 155, 156, 157, 142, 143, 144, 145, 35, 36, 146, 147, 148, 149, 33, 150, 151, 152, 153, 664, 665, 666, 667, 668, 676, 677, 678, 679, 680, 681, 682, 683, 684, 685, 686, 687, 688, 689, 690] (by decide +kernel) (by decide +kernel)
set_option maxRecDepth 20000 in
theorem gL_law_X3_editor : GoodIn wsL_law (wsV RL 49 RX3 yX3_editor wsX3_editor) := goodIn_app (goodIn_of _ (by decide +kernel)) ggL_law_X3_editor
set_option maxRecDepth 20000 in
theorem ggL_law_X4_editor : GoodIn wsL_law wsX4_editor := goodIn_r _ [352, 72, 169, 170, 5, 171, 120, 121, 122, 80, 81, 82, 186, 187, 188, 189, 179, 180, 181, 182, 77, 78, 79, 183, 184, 185, 353, 354, 355, 356, 669, 670, 671, 672, 673, 674, 675] (by decide +kernel) (by decide +kernel)
set_option maxRecDepth 20000 in
theorem gL_law_X4_editor : GoodIn wsL_law (wsV RL 52 RX4 yX4_editor wsX4_editor) := goodIn_app (goodIn_of _ (by decide +kernel)) ggL_law_X4_editor
set_option maxRecDepth 20000 in
theorem ggL_law_X3_chosen : GoodIn wsL_law wsX3_chosen := goodIn_r _ [360, 16, 361, 362, 363, 15, 364, 45, 39, 365, 366, 367, 368, 34, 664, 665, 666, 667, 668, 676, 677, 678, 679, 680, 681, 682, 683, 684, 685, 686, 687, 688, 689, 690] (by decide +kernel) (by decide +kernel)
set_option maxRecDepth 20000 in
theorem gL_law_X3_chosen : GoodIn wsL_law (wsV RL 53 RX3 yX3_chosen wsX3_chosen) := goodIn_app (goodIn_of _ (by decide +kernel)) ggL_law_X3_chosen
set_option maxRecDepth 20000 in
theorem ggL_law_X4_chosen : GoodIn wsL_law wsX4_chosen := goodIn_r _ [372, 373, 374, 375, 5, 376, 72, 77, 78, 79, 377, 378, 379, 380, 669, 670, 671, 672, 673, 674, 675] (by decide +kernel) (by decide +kernel)
set_option maxRecDepth 20000 in
theorem gL_law_X4_chosen : GoodIn wsL_law (wsV RL 56 RX4 yX4_chosen wsX4_chosen) := goodIn_app (goodIn_of _ (by decide +kernel)) ggL_law_X4_chosen
set_option maxRecDepth 20000 in
theorem ggL_law_X3_count : GoodIn wsL_law wsX3_count := goodIn_r _ [384, 24, 20, 16, 385, 386, 387, 15, 388, 45, 46, 47, 44, 33, 389, 390, 391, 392, 34, 393, 394, 395, 396, 150, 151, 152, 153, 365, 366, 367, 368, 664, 665, 666, 667, 668, 693, 694, 695, 696, 697, 698, 699, 700, 691, 692, 676, 677, 678, 679, 680, 681, 682, 683, 684, 685, 686, 687, 688, 689, 690] (by decide +kernel) (by decide +kernel)
set_option maxRecDepth 20000 in
theorem gL_law_X3_count : GoodIn wsL_law (wsV RL 57 RX3 yX3_count wsX3_count) := goodIn_app (goodIn_of _ (by decide +kernel)) ggL_law_X3_count
set_option maxRecDepth 20000 in
theorem ggL_law_X4_count : GoodIn wsL_law wsX4_count := goodIn_r _ [400, 72, 401, 127, 402, 403, 404, 5, 405, 77, 78, 79, 406, 407, 408, 409, 373, 374, 375, 376, 120, 121, 122, 669, 670, 671, 672, 673, 674, 675] (by decide +kernel) (by decide +kernel)
set_option maxRecDepth 20000 in
theorem gL_law_X4_count : GoodIn wsL_law (wsV RL 60 RX4 yX4_count wsX4_count) := goodIn_app (goodIn_of _ (by decide +kernel)) ggL_law_X4_count
set_option maxRecDepth 20000 in
theorem ggL_law_X3_why : GoodIn wsL_law wsX3_why := goodIn_r _ [413, 16, 414, 415, 416, 15, 417, 34, 36, 35, 139, 140, 141, 240, 241, 242, 243, 33, 233, 234, 235, 236, 237, 238, 239, 664, 665, 666, 667, 668, 676, 677, 678, 679, 680, 681, 682, 683, 684, 685, 686, 687, 688, 689, 690] (by decide +kernel) (by decide +kernel)
set_option maxRecDepth 20000 in
theorem gL_law_X3_why : GoodIn wsL_law (wsV RL 61 RX3 yX3_why wsX3_why) := goodIn_app (goodIn_of _ (by decide +kernel)) ggL_law_X3_why
set_option maxRecDepth 20000 in
theorem ggL_law_X4_why : GoodIn wsL_law wsX4_why := goodIn_r _ [421, 172, 173, 5, 174, 120, 121, 122, 422, 423, 424, 425, 72, 175, 176, 177, 178, 77, 78, 79, 268, 269, 270, 271, 179, 180, 181, 182, 183, 184, 185, 272, 273, 274, 669, 670, 671, 672, 673, 674, 675] (by decide +kernel) (by decide +kernel)
set_option maxRecDepth 20000 in
theorem gL_law_X4_why : GoodIn wsL_law (wsV RL 64 RX4 yX4_why wsX4_why) := goodIn_app (goodIn_of _ (by decide +kernel)) ggL_law_X4_why
set_option maxRecDepth 20000 in
theorem ggL_law_X3_ifRound : GoodIn wsL_law wsX3_ifRound := goodIn_r _ [429, 16, 430, 431, 432, 15, 433, 434, 435, 436, 437, 34, 229, 230, 231, 232, 36, 35, 33, 233, 234, 235, 236, 237, 238, 239, 240, 241, 242, 243, 244, 245, 246, 247, 37, 664, 665, 666, 667, 668, 676, 677, 678, 679, 680, 681, 682, 683, 684, 685, 686, 687, 688, 689, 690] (by decide +kernel) (by decide +kernel)
set_option maxRecDepth 20000 in
theorem gL_law_X3_ifRound : GoodIn wsL_law (wsV RL 65 RX3 yX3_ifRound wsX3_ifRound) := goodIn_app (goodIn_of _ (by decide +kernel)) ggL_law_X3_ifRound
set_option maxRecDepth 20000 in
theorem ggL_law_X4_ifRound : GoodIn wsL_law wsX4_ifRound := goodIn_r _ [441, 120, 121, 5, 122, 175, 176, 177, 178, 72, 77, 78, 79, 264, 265, 266, 267, 268, 269, 270, 271, 179, 180, 181, 182, 183, 184, 185, 272, 273, 274, 669, 670, 671, 672, 673, 674, 675] (by decide +kernel) (by decide +kernel)
set_option maxRecDepth 20000 in
theorem gL_law_X4_ifRound : GoodIn wsL_law (wsV RL 68 RX4 yX4_ifRound wsX4_ifRound) := goodIn_app (goodIn_of _ (by decide +kernel)) ggL_law_X4_ifRound
set_option maxRecDepth 20000 in
theorem ggL_law_X3_decides : GoodIn wsL_law wsX3_decides := goodIn_r _ [445, 16, 446, 447, 448, 15, 449, 34, 139, 140, 141, 450, 451, 452, 453, 35, 36, 240, 241, 242, 243, 33, 233, 234, 235, 236, 237, 238, 239, 158, 159, 160, 664, 665, 666, 667, 668, 676, 677, 678, 679, 680, 681, 682, 683, 684, 685, 686, 687, 688, 689, 690] (by decide +kernel) (by decide +kernel)
set_option maxRecDepth 20000 in
theorem gL_law_X3_decides : GoodIn wsL_law (wsV RL 69 RX3 yX3_decides wsX3_decides) := goodIn_app (goodIn_of _ (by decide +kernel)) ggL_law_X3_decides
set_option maxRecDepth 20000 in
theorem ggL_law_X4_decides : GoodIn wsL_law wsX4_decides := goodIn_r _ [457, 172, 173, 5, 174, 120, 121, 122, 175, 176, 177, 178, 72, 77, 78, 79, 458, 459, 460, 461, 179, 180, 181, 182, 183, 184, 185, 190, 191, 192, 193, 422, 423, 424, 425, 268, 269, 270, 271, 272, 273, 274, 669, 670, 671, 672, 673, 674, 675] (by decide +kernel) (by decide +kernel)
set_option maxRecDepth 20000 in
theorem gL_law_X4_decides : GoodIn wsL_law (wsV RL 72 RX4 yX4_decides wsX4_decides) := goodIn_app (goodIn_of _ (by decide +kernel)) ggL_law_X4_decides
set_option maxRecDepth 20000 in
theorem ggL_law_X3_agree : GoodIn wsL_law wsX3_agree := goodIn_r _ [465, 16, 466, 467, 468, 15, 469, 136, 137, 138, 142, 143, 144, 145, 35, 36, 664, 665, 666, 667, 668, 676, 677, 678, 679, 680, 681, 682, 683, 684, 685, 686, 687, 688, 689, 690] (by decide +kernel) (by decide +kernel)
set_option maxRecDepth 20000 in
theorem gL_law_X3_agree : GoodIn wsL_law (wsV RL 73 RX3 yX3_agree wsX3_agree) := goodIn_app (goodIn_of _ (by decide +kernel)) ggL_law_X3_agree
set_option maxRecDepth 20000 in
theorem ggL_law_X4_agree : GoodIn wsL_law wsX4_agree := goodIn_r _ [473, 169, 170, 5, 171, 120, 121, 122, 175, 176, 177, 178, 72, 77, 78, 79, 179, 180, 181, 182, 183, 184, 185, 669, 670, 671, 672, 673, 674, 675] (by decide +kernel) (by decide +kernel)
set_option maxRecDepth 20000 in
theorem gL_law_X4_agree : GoodIn wsL_law (wsV RL 76 RX4 yX4_agree wsX4_agree) := goodIn_app (goodIn_of _ (by decide +kernel)) ggL_law_X4_agree
set_option maxRecDepth 20000 in
theorem ggL_law_X3_paperFor : GoodIn wsL_law wsX3_paperFor := goodIn_r _ [477, 16, 478, 479, 480, 15, 481, 34, 38, 283, 284, 285, 664, 665, 666, 667, 668, 676, 677, 678, 679, 680, 681, 682, 683, 684, 685, 686, 687, 688, 689, 690] (by decide +kernel) (by decide +kernel)
set_option maxRecDepth 20000 in
theorem gL_law_X3_paperFor : GoodIn wsL_law (wsV RL 77 RX3 yX3_paperFor wsX3_paperFor) := goodIn_app (goodIn_of _ (by decide +kernel)) ggL_law_X3_paperFor
set_option maxRecDepth 20000 in
theorem ggL_law_X4_paperFor : GoodIn wsL_law wsX4_paperFor := goodIn_r _ [485, 72, 77, 78, 5, 79, 294, 295, 296, 669, 670, 671, 672, 673, 674, 675] (by decide +kernel) (by decide +kernel)
set_option maxRecDepth 20000 in
theorem gL_law_X4_paperFor : GoodIn wsL_law (wsV RL 80 RX4 yX4_paperFor wsX4_paperFor) := goodIn_app (goodIn_of _ (by decide +kernel)) ggL_law_X4_paperFor
set_option maxRecDepth 20000 in
theorem ggL_law_X3_put : GoodIn wsL_law wsX3_put := goodIn_r _ [489, 24, 490, 491, 492, 23, 493, 61, 60, 494, 495, 496, 497, 498, 499, 664, 665, 666, 667, 668, 693, 694, 695, 696, 697, 698, 699, 700] (by decide +kernel) (by decide +kernel)
set_option maxRecDepth 20000 in
theorem gL_law_X3_put : GoodIn wsL_law (wsV RL 83 RX3 yX3_put wsX3_put) := goodIn_app (goodIn_of _ (by decide +kernel)) ggL_law_X3_put
set_option maxRecDepth 20000 in
theorem ggL_law_X4_put : GoodIn wsL_law wsX4_put := goodIn_r _ [503, 504, 401, 76, 120, 121, 5, 122, 669, 670, 671, 672, 673, 674, 675] (by decide +kernel) (by decide +kernel)
set_option maxRecDepth 20000 in
theorem gL_law_X4_put : GoodIn wsL_law (wsV RL 87 RX4 yX4_put wsX4_put) := goodIn_app (goodIn_of _ (by decide +kernel)) ggL_law_X4_put
set_option maxRecDepth 20000 in
theorem ggL_law_X3_wipe : GoodIn wsL_law wsX3_wipe := goodIn_r _ [508, 24, 509, 510, 511, 23, 512, 61, 664, 665, 666, 667, 668, 693, 694, 695, 696, 697, 698, 699, 700] (by decide +kernel) (by decide +kernel)
set_option maxRecDepth 20000 in
theorem gL_law_X3_wipe : GoodIn wsL_law (wsV RL 88 RX3 yX3_wipe wsX3_wipe) := goodIn_app (goodIn_of _ (by decide +kernel)) ggL_law_X3_wipe
set_option maxRecDepth 20000 in
theorem ggL_law_X4_wipe : GoodIn wsL_law wsX4_wipe := goodIn_r _ [516, 401, 669, 670, 671, 672, 673, 674, 675] (by decide +kernel) (by decide +kernel)
set_option maxRecDepth 20000 in
theorem gL_law_X4_wipe : GoodIn wsL_law (wsV RL 91 RX4 yX4_wipe wsX4_wipe) := goodIn_app (goodIn_of _ (by decide +kernel)) ggL_law_X4_wipe
set_option maxRecDepth 20000 in
theorem ggL_law_X3_fault : GoodIn wsL_law wsX3_fault := goodIn_r _ [520, 24, 521, 522, 523, 23, 524, 62, 61, 525, 526, 527, 528, 529, 530, 531, 532, 533, 534, 535, 536, 537, 538, 539, 540, 60, 541, 542, 543, 544, 63, 545, 546, 547, 548, 64, 549, 550, 551, 552, 553, 554, 555, 556, 557, 558, 559, 560, 66, 561, 562, 563, 564, 65, 565, 566, 567, 568, 67, 664, 665, 666, 667, 668, 693, 694, 695, 696, 697, 698, 699, 700] (by decide +kernel) (by decide +kernel)
set_option maxRecDepth 20000 in
theorem gL_law_X3_fault : GoodIn wsL_law (wsV RL 92 RX3 yX3_fault wsX3_fault) := goodIn_app (goodIn_of _ (by decide +kernel)) ggL_law_X3_fault
set_option maxRecDepth 20000 in
theorem ggL_law_X4_fault : GoodIn wsL_law wsX4_fault := goodIn_r _ [572, 401, 573, 574, 575, 5, 576, 577, 578, 579, 580, 76, 581, 582, 583, 584, 585, 586, 587, 588, 120, 121, 122, 589, 590, 591, 592, 593, 594, 595, 596, 669, 670, 671, 672, 673, 674, 675] (by decide +kernel) (by decide +kernel)
set_option maxRecDepth 20000 in
theorem gL_law_X4_fault : GoodIn wsL_law (wsV RL 95 RX4 yX4_fault wsX4_fault) := goodIn_app (goodIn_of _ (by decide +kernel)) ggL_law_X4_fault
set_option maxRecDepth 20000 in
theorem ggL_law_X3_carryOut : GoodIn wsL_law wsX3_carryOut := goodIn_r _ [600, 24, 20, 16, 521, 522, 523, 23, 524, 62, 61, 525, 526, 527, 528, 529, 530, 531, 532, 533, 534, 535, 536, 537, 538, 539, 540, 60, 541, 542, 543, 544, 63, 545, 546, 547, 548, 64, 549, 550, 551, 552, 553, 554, 555, 556, 557, 558, 559, 560, 66, 561, 562, 563, 564, 65, 565, 566, 567, 568, 67, 87, 88, 89, 19, 90, 53, 54, 91, 92, 93, 15, 94, 33, 95, 96, 97, 98, 34, 35, 36, 37, 38, 39, 40, 41, 42, 43, 44, 45, 46, 47, 601, 602, 603, 2, 604, 605, 606, 607, 608, 609, 610, 132, 133, 134, 135, 136, 137, 138, 139, 140, 141, 142, 143, 144, 145, 146, 147, 148, 149, 150, 151, 152, 153, 154, 155, 156, 157, 158, 159, 160, 198, 199, 200, 201, 279, 280, 281, 282, 283, 284, 285, 305, 306, 307, 308, 222, 223, 224, 218, 219, 220, 221, 225, 226, 227, 228, 229, 230, 231, 232, 233, 234, 235, 236, 237, 238, 239, 240, 241, 242, 243, 244, 245, 246, 247, 248, 249, 250, 251, 509, 510, 511, 512, 105, 106, 107, 108, 109, 110, 111, 112, 664, 665, 666, 667, 668, 693, 694, 695, 696, 697, 698, 699, 700, 691, 692, 676, 677, 678, 679, 680, 681, 682, 683, 684, 685, 686, 687, 688, 689, 690] (by decide +kernel) (by decide +kernel)
set_option maxRecDepth 20000 in
theorem gL_law_X3_carryOut : GoodIn wsL_law (wsV RL 96 RX3 yX3_carryOut wsX3_carryOut) := goodIn_app (goodIn_of _ (by decide +kernel)) ggL_law_X3_carryOut
set_option maxRecDepth 20000 in
theorem ggL_law_X4_carryOut : GoodIn wsL_law wsX4_carryOut := goodIn_r _ [614, 401, 615, 570, 571, 5, 572, 573, 574, 575, 576, 577, 578, 579, 580, 76, 581, 582, 583, 584, 585, 586, 587, 588, 120, 121, 122, 589, 590, 591, 592, 593, 594, 595, 596, 123, 124, 125, 126, 127, 73, 72, 616, 617, 618, 619, 620, 621, 622, 623, 206, 207, 208, 209, 169, 170, 171, 172, 173, 174, 179, 180, 181, 182, 77, 78, 79, 183, 184, 185, 80, 81, 82, 290, 291, 292, 293, 294, 295, 296, 624, 625, 626, 627, 165, 166, 167, 168, 175, 176, 177, 178, 186, 187, 188, 189, 628, 629, 630, 631, 210, 211, 212, 213, 190, 191, 192, 193, 256, 257, 258, 259, 260, 261, 262, 263, 264, 265, 266, 267, 268, 269, 270, 271, 272, 273, 274, 297, 298, 299, 300, 313, 314, 315, 316, 669, 670, 671, 672, 673, 674, 675] (by decide +kernel) (by decide +kernel)
set_option maxRecDepth 20000 in
theorem gL_law_X4_carryOut : GoodIn wsL_law (wsV RL 99 RX4 yX4_carryOut wsX4_carryOut) := goodIn_app (goodIn_of _ (by decide +kernel)) ggL_law_X4_carryOut
set_option maxRecDepth 20000 in
theorem ggL_law_X3_undo : GoodIn wsL_law wsX3_undo := goodIn_r _ [635, 20, 16, 636, 637, 638, 19, 639, 54, 53, 91, 92, 93, 15, 94, 33, 95, 96, 97, 98, 34, 35, 36, 37, 38, 39, 40, 41, 42, 43, 44, 45, 46, 47, 664, 665, 666, 667, 668, 691, 692, 676, 677, 678, 679, 680, 681, 682, 683, 684, 685, 686, 687, 688, 689, 690] (by decide +kernel) (by decide +kernel)
set_option maxRecDepth 20000 in
theorem gL_law_X3_undo : GoodIn wsL_law (wsV RL 100 RX3 yX3_undo wsX3_undo) := goodIn_app (goodIn_of _ (by decide +kernel)) ggL_law_X3_undo
set_option maxRecDepth 20000 in
theorem ggL_law_X4_undo : GoodIn wsL_law wsX4_undo := goodIn_r _ [643, 127, 72, 73, 669, 670, 671, 672, 673, 674, 675] (by decide +kernel) (by decide +kernel)
set_option maxRecDepth 20000 in
theorem gL_law_X4_undo : GoodIn wsL_law (wsV RL 103 RX4 yX4_undo wsX4_undo) := goodIn_app (goodIn_of _ (by decide +kernel)) ggL_law_X4_undo
set_option maxRecDepth 20000 in
theorem ggL_law_X3_save : GoodIn wsL_law wsX3_save := goodIn_r _ [647, 25, 16, 27, 648, 649, 2, 650, 651, 92, 93, 15, 94, 33, 95, 96, 97, 98, 34, 35, 36, 37, 38, 39, 40, 41, 42, 43, 44, 45, 46, 47, 664, 665, 666, 667, 668, 676, 677, 678, 679, 680, 681, 682, 683, 684, 685, 686, 687, 688, 689, 690] (by decide +kernel) (by decide +kernel)
set_option maxRecDepth 20000 in
theorem gL_law_X3_save : GoodIn wsL_law (wsV RL 104 RX3 yX3_save wsX3_save) := goodIn_app (goodIn_of _ (by decide +kernel)) ggL_law_X3_save
set_option maxRecDepth 20000 in
theorem ggL_law_X4_save : GoodIn wsL_law wsX4_save := goodIn_r _ [655, 74, 72, 75, 120, 121, 5, 122, 669, 670, 671, 672, 673, 674, 675] (by decide +kernel) (by decide +kernel)
set_option maxRecDepth 20000 in
theorem gL_law_X4_save : GoodIn wsL_law (wsV RL 107 RX4 yX4_save wsX4_save) := goodIn_app (goodIn_of _ (by decide +kernel)) ggL_law_X4_save
set_option maxRecDepth 20000 in
theorem ggL_law_X3_restore : GoodIn wsL_law wsX3_restore := goodIn_r _ [659, 27, 20, 16, 25, 648, 649, 2, 650, 87, 88, 89, 19, 90, 53, 54, 91, 92, 93, 15, 94, 33, 95, 96, 97, 98, 34, 35, 36, 37, 38, 39, 40, 41, 42, 43, 44, 45, 46, 47, 651, 105, 106, 107, 108, 109, 110, 111, 112, 664, 665, 666, 667, 668, 676, 677, 678, 679, 680, 681, 682, 683, 684, 685, 686, 687, 688, 689, 690, 691, 692] (by decide +kernel) (by decide +kernel)
set_option maxRecDepth 20000 in
theorem gL_law_X3_restore : GoodIn wsL_law (wsV RL 108 RX3 yX3_restore wsX3_restore) := goodIn_app (goodIn_of _ (by decide +kernel)) ggL_law_X3_restore
set_option maxRecDepth 20000 in
theorem ggL_law_X4_restore : GoodIn wsL_law wsX4_restore := goodIn_r _ [663, 75, 72, 74, 120, 121, 5, 122, 123, 124, 125, 126, 127, 73, 669, 670, 671, 672, 673, 674, 675] (by decide +kernel) (by decide +kernel)
set_option maxRecDepth 20000 in
theorem gL_law_X4_restore : GoodIn wsL_law (wsV RL 111 RX4 yX4_restore wsX4_restore) := goodIn_app (goodIn_of _ (by decide +kernel)) ggL_law_X4_restore
