set_option maxRecDepth 20000 in
theorem ggL_law_X3_init : GoodIn wsL_law wsX3_init := goodIn_r _ [6, 7, 8, 9, 10, 11, 12, 13, 14, 15, 16, 17, 18, 19, 20, 21, 22, 23, 24, 25, 26, 27, 28, 3, 29, 30, 31, 32, 33, 34, 35, 36, 37, 38, 39, 40, 41, 42, 43, 44, 45, 46, 47, 48, 49, 50, 51, 52, 53, 54, 55, 56, 57, 58, 59, 60, 61, 62, 63, 344, 345, 346, 347, 348, 349, 350, 351, 352, 353, 354, 355, 356, 357, 358, 339, 340, 341, 342, 343, 359, 360, 361, 362, 363, 364, 365, 366, 367, 368] (by decide +kernel) (by decide +kernel)
set_option maxRecDepth 20000 in
theorem gL_law_X3_init : GoodIn wsL_law (wsX3_init) := ggL_law_X3_init
set_option maxRecDepth 20000 in
theorem ggL_law_L_areFrames : GoodIn wsL_law wsL_areFrames := goodIn_r _ [67, 3, 68, 69, 70, 2, 71, 13, 72, 73, 74, 12, 75, 30, 31, 32, 33, 34, 35, 76, 77, 78, 79, 80, 81, 82, 21, 17, 83, 84, 85, 86, 41, 42, 43, 40, 29, 87, 88, 89, 90, 91, 92, 93, 94, 95, 96, 97, 98, 99, 100, 101, 102, 103, 104, 66, 105, 106, 107, 108, 109, 110, 111, 112, 113, 114, 115, 116, 117, 118, 119, 120, 121, 122, 123, 124, 125, 126, 127, 128, 129, 130, 131, 132, 133, 134, 135, 136, 137, 138, 139, 140, 141, 142, 143, 144, 145, 146, 147, 148, 149, 150, 151, 152, 153, 154, 155, 156, 157, 158, 159, 160, 161, 162, 163, 164, 165, 166, 167, 168, 169, 170, 339, 340, 341, 342, 343, 344, 345, 346, 347, 348, 349, 350, 351, 352, 353, 354, 355, 356, 357, 358, 361, 362, 363, 364, 365, 366, 367, 368, 359, 360] rfl (by decide +kernel)
set_option maxRecDepth 20000 in
theorem gL_law_L_areFrames : GoodIn wsL_law (va_wsS RL 94 yL_areFrames wsL_areFrames) := goodIn_app (goodIn_of _ (by decide +kernel)) ggL_law_L_areFrames
set_option maxRecDepth 20000 in
theorem ggL_law_L_areEditors : GoodIn wsL_law wsL_areEditors := goodIn_r _ [173, 174, 175, 66, 176, 68, 69, 70, 2, 71, 13, 72, 73, 74, 12, 75, 30, 31, 32, 33, 34, 35, 76, 77, 78, 79, 80, 81, 82, 21, 17, 83, 84, 85, 86, 41, 42, 43, 40, 29, 87, 88, 89, 90, 91, 92, 93, 94, 95, 96, 97, 98, 99, 100, 101, 102, 177, 178, 179, 180, 181, 182, 183, 184, 36, 37, 38, 39, 185, 186, 187, 188, 189, 190, 191, 192, 193, 194, 195, 196, 197, 198, 199, 200, 201, 202, 203, 204, 205, 206, 207, 339, 340, 341, 342, 343, 344, 345, 346, 347, 348, 349, 350, 351, 352, 353, 354, 355, 356, 357, 358, 361, 362, 363, 364, 365, 366, 367, 368, 359, 360] (by decide +kernel) (by decide +kernel)
set_option maxRecDepth 20000 in
theorem gL_law_L_areEditors : GoodIn wsL_law (va_wsS RL 98 yL_areEditors wsL_areEditors) := goodIn_app (goodIn_of _ (by decide +kernel)) ggL_law_L_areEditors
set_option maxRecDepth 20000 in
theorem ggL_law_X3_count : GoodIn wsL_law wsX3_count := goodIn_r _ [82, 21, 17, 13, 83, 84, 85, 12, 86, 41, 42, 43, 40, 29, 87, 88, 89, 90, 30, 91, 92, 93, 94, 95, 96, 97, 98, 99, 100, 101, 102, 339, 340, 341, 342, 343, 361, 362, 363, 364, 365, 366, 367, 368, 359, 360, 344, 345, 346, 347, 348, 349, 350, 351, 352, 353, 354, 355, 356, 357, 358] (by decide +kernel) (by decide +kernel)
set_option maxRecDepth 20000 in
theorem gL_law_X3_count : GoodIn wsL_law (wsV RL 14 RX3 yX3_count wsX3_count) := goodIn_app (goodIn_of _ (by decide +kernel)) ggL_law_X3_count
set_option maxRecDepth 20000 in
theorem ggL_law_X3_of : GoodIn wsL_law wsX3_of := goodIn_r _ [71, 13, 72, 73, 74, 12, 75, 30, 31, 32, 33, 34, 35, 76, 77, 78, 339, 340, 341, 342, 343, 344, 345, 346, 347, 348, 349, 350, 351, 352, 353, 354, 355, 356, 357, 358] (by decide +kernel) (by decide +kernel)
set_option maxRecDepth 20000 in
theorem gL_law_X3_of : GoodIn wsL_law (wsV RL 8 RX3 yX3_of wsX3_of) := goodIn_app (goodIn_of _ (by decide +kernel)) ggL_law_X3_of
set_option maxRecDepth 20000 in
theorem ggL_law_X3_undo : GoodIn wsL_law wsX3_undo := goodIn_r _ [211, 17, 13, 212, 213, 214, 16, 215, 50, 49, 216, 217, 218, 12, 219, 29, 220, 221, 222, 223, 30, 31, 32, 33, 34, 35, 36, 37, 38, 39, 40, 41, 42, 43, 339, 340, 341, 342, 343, 359, 360, 344, 345, 346, 347, 348, 349, 350, 351, 352, 353, 354, 355, 356, 357, 358] (by decide +kernel) (by decide +kernel)
set_option maxRecDepth 20000 in
theorem gL_law_X3_undo : GoodIn wsL_law (wsV RL 59 RX3 yX3_undo wsX3_undo) := goodIn_app (goodIn_of _ (by decide +kernel)) ggL_law_X3_undo
set_option maxRecDepth 20000 in
theorem ggL_law_L_cell : GoodIn wsL_law wsL_cell := goodIn_r _ [226] (by decide +kernel) (by decide +kernel)
set_option maxRecDepth 20000 in
theorem gL_law_L_cell : GoodIn wsL_law (va_wsS RL 101 yL_cell wsL_cell) := goodIn_app (goodIn_of _ (by decide +kernel)) ggL_law_L_cell
set_option maxRecDepth 20000 in
theorem ggL_law_L_does : GoodIn wsL_law wsL_does := goodIn_r _ [229, 230, 231, 66, 232, 233, 234, 235, 236, 79, 80, 81, 2, 82, 21, 17, 13, 83, 84, 85, 12, 86, 41, 42, 43, 40, 29, 87, 88, 89, 90, 30, 91, 92, 93, 94, 95, 96, 97, 98, 99, 100, 101, 102, 177, 178, 179, 180, 181, 182, 183, 184, 36, 37, 38, 39, 185, 186, 187, 188, 189, 190, 191, 192, 193, 194, 195, 31, 32, 196, 197, 198, 199, 174, 175, 176, 68, 69, 70, 71, 72, 73, 74, 75, 33, 34, 35, 76, 77, 78, 237, 238, 239, 240, 241, 242, 243, 16, 244, 49, 50, 216, 217, 218, 219, 220, 221, 222, 223, 245, 246, 247, 248, 137, 138, 139, 249, 250, 251, 252, 253, 254, 255, 256, 257, 258, 259, 260, 140, 141, 142, 143, 144, 145, 146, 147, 148, 149, 150, 151, 152, 153, 154, 155, 118, 119, 120, 121, 122, 123, 124, 114, 115, 116, 117, 156, 157, 158, 159, 103, 104, 105, 106, 107, 108, 109, 110, 111, 112, 113, 261, 262, 263, 264, 265, 266, 267, 268, 269, 270, 271, 272, 273, 274, 275, 276, 277, 278, 279, 280, 281, 282, 283, 284, 285, 286, 287, 288, 289, 290, 291, 292, 293, 294, 295, 296, 297, 298, 168, 169, 170, 299, 300, 301, 302, 303, 304, 305, 306, 307, 308, 309, 310, 311, 312, 313, 314, 315, 316, 317, 318, 319, 320, 321, 322, 323, 324, 325, 326, 327, 125, 126, 127, 128, 129, 130, 131, 132, 133, 134, 135, 136, 328, 329, 330, 331, 332, 333, 334, 335, 208, 209, 210, 211, 212, 213, 214, 215, 339, 340, 341, 342, 343, 361, 362, 363, 364, 365, 366, 367, 368, 359, 360, 344, 345, 346, 347, 348, 349, 350, 351, 352, 353, 354, 355, 356, 357, 358] rfl (by decide +kernel)
set_option maxRecDepth 20000 in
theorem gL_law_L_does : GoodIn wsL_law (va_wsS RL 105 yL_does wsL_does) := goodIn_app (goodIn_of _ (by decide +kernel)) ggL_law_L_does
set_option maxRecDepth 20000 in
theorem ggL_law_L_areChosen : GoodIn wsL_law wsL_areChosen := goodIn_r _ [338, 79, 80, 81, 2, 82, 21, 17, 13, 83, 84, 85, 12, 86, 41, 42, 43, 40, 29, 87, 88, 89, 90, 30, 91, 92, 93, 94, 95, 96, 97, 98, 99, 100, 101, 102, 280, 281, 282, 283, 284, 285, 286, 287, 35, 68, 69, 70, 71, 72, 73, 74, 75, 31, 32, 33, 34, 76, 77, 78, 339, 340, 341, 342, 343, 361, 362, 363, 364, 365, 366, 367, 368, 359, 360, 344, 345, 346, 347, 348, 349, 350, 351, 352, 353, 354, 355, 356, 357, 358] (by decide +kernel) (by decide +kernel)
set_option maxRecDepth 20000 in
theorem gL_law_L_areChosen : GoodIn wsL_law (va_wsS RL 109 yL_areChosen wsL_areChosen) := goodIn_app (goodIn_of _ (by decide +kernel)) ggL_law_L_areChosen
set_option maxRecDepth 20000 in
theorem ggL_law_X3_mark : GoodIn wsL_law wsX3_mark := goodIn_r _ [331, 17, 13, 241, 242, 243, 16, 244, 49, 50, 216, 217, 218, 12, 219, 29, 220, 221, 222, 223, 30, 31, 32, 33, 34, 35, 36, 37, 38, 39, 40, 41, 42, 43, 332, 333, 334, 335, 185, 186, 187, 76, 77, 78, 192, 193, 194, 195, 196, 197, 198, 199, 95, 96, 97, 98, 188, 189, 190, 191, 137, 138, 139, 249, 250, 251, 2, 252, 253, 254, 255, 256, 339, 340, 341, 342, 343, 359, 360, 344, 345, 346, 347, 348, 349, 350, 351, 352, 353, 354, 355, 356, 357, 358] (by decide +kernel) (by decide +kernel)
set_option maxRecDepth 20000 in
theorem gL_law_X3_mark : GoodIn wsL_law (wsV RL 57 RX3 yX3_mark wsX3_mark) := goodIn_app (goodIn_of _ (by decide +kernel)) ggL_law_X3_mark
set_option maxRecDepth 20000 in
theorem ggL_law_X3_print : GoodIn wsL_law wsX3_print := goodIn_r _ [294, 17, 13, 241, 242, 243, 16, 244, 49, 50, 216, 217, 218, 12, 219, 29, 220, 221, 222, 223, 30, 31, 32, 33, 34, 35, 36, 37, 38, 39, 40, 41, 42, 43, 295, 296, 297, 298, 76, 77, 78, 168, 169, 170, 249, 250, 251, 2, 252, 253, 254, 255, 256, 339, 340, 341, 342, 343, 359, 360, 344, 345, 346, 347, 348, 349, 350, 351, 352, 353, 354, 355, 356, 357, 358] (by decide +kernel) (by decide +kernel)
set_option maxRecDepth 20000 in
theorem gL_law_X3_print : GoodIn wsL_law (wsV RL 62 RX3 yX3_print wsX3_print) := goodIn_app (goodIn_of _ (by decide +kernel)) ggL_law_X3_print
set_option maxRecDepth 20000 in
theorem ggL_law_X3_buy : GoodIn wsL_law wsX3_buy := goodIn_r _ [302, 17, 13, 241, 242, 243, 16, 244, 49, 50, 216, 217, 218, 12, 219, 29, 220, 221, 222, 223, 30, 31, 32, 33, 34, 35, 36, 37, 38, 39, 40, 41, 42, 43, 303, 304, 305, 306, 269, 270, 97, 271, 249, 250, 251, 2, 252, 253, 254, 255, 256, 339, 340, 341, 342, 343, 359, 360, 344, 345, 346, 347, 348, 349, 350, 351, 352, 353, 354, 355, 356, 357, 358] (by decide +kernel) (by decide +kernel)
set_option maxRecDepth 20000 in
theorem gL_law_X3_buy : GoodIn wsL_law (wsV RL 80 RX3 yX3_buy wsX3_buy) := goodIn_app (goodIn_of _ (by decide +kernel)) ggL_law_X3_buy
set_option maxRecDepth 20000 in
theorem ggL_law_X3_set : GoodIn wsL_law wsX3_set := goodIn_r _ [318, 17, 13, 241, 242, 243, 16, 244, 49, 50, 216, 217, 218, 12, 219, 29, 220, 221, 222, 223, 30, 31, 32, 33, 34, 35, 36, 37, 38, 39, 40, 41, 42, 43, 319, 320, 321, 322, 323, 324, 249, 250, 251, 2, 252, 253, 254, 255, 256, 339, 340, 341, 342, 343, 359, 360, 344, 345, 346, 347, 348, 349, 350, 351, 352, 353, 354, 355, 356, 357, 358] (by decide +kernel) (by decide +kernel)
set_option maxRecDepth 20000 in
theorem gL_law_X3_set : GoodIn wsL_law (wsV RL 86 RX3 yX3_set wsX3_set) := goodIn_app (goodIn_of _ (by decide +kernel)) ggL_law_X3_set
set_option maxRecDepth 20000 in
theorem ggL_law_X3_ifRound : GoodIn wsL_law wsX3_ifRound := goodIn_r _ [143, 13, 144, 145, 146, 12, 147, 148, 149, 150, 151, 30, 152, 153, 154, 155, 32, 31, 29, 118, 119, 120, 121, 122, 123, 124, 114, 115, 116, 117, 156, 157, 158, 159, 33, 339, 340, 341, 342, 343, 344, 345, 346, 347, 348, 349, 350, 351, 352, 353, 354, 355, 356, 357, 358] (by decide +kernel) (by decide +kernel)
set_option maxRecDepth 20000 in
theorem gL_law_X3_ifRound : GoodIn wsL_law (wsV RL 29 RX3 yX3_ifRound wsX3_ifRound) := goodIn_app (goodIn_of _ (by decide +kernel)) ggL_law_X3_ifRound
