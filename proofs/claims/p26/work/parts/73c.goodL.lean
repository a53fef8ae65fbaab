set_option maxRecDepth 20000 in
theorem ggL_does_L_low : GoodIn wsL_does wsL_low := goodIn_r _ [4, 5] (by decide +kernel) (by decide +kernel)
set_option maxRecDepth 20000 in
theorem gL_does_L_low : GoodIn wsL_does (va_wsS RL 65 yL_low wsL_low) := goodIn_app (goodIn_of _ (by decide +kernel)) ggL_does_L_low
set_option maxRecDepth 20000 in
theorem ggL_does_L_isArgued : GoodIn wsL_does wsL_isArgued := goodIn_r _ [8, 9, 10, 11, 12, 13, 14, 15, 16, 17, 18, 19, 20, 21, 22, 23, 24, 25, 26, 27, 28, 29, 30, 31, 32, 33, 34, 35, 36, 37, 38, 39, 40, 41, 42, 43, 44, 45, 46, 47, 48, 49, 50, 51, 52, 53, 54, 55, 56, 57, 58, 59, 60, 61, 62, 63, 64, 65, 66, 67, 68, 69, 70, 71, 72, 73, 74, 3, 75, 76, 77, 78, 79, 80, 81, 82, 83, 84, 85, 86, 87, 88, 89, 90, 91, 92, 93, 94, 95, 96, 97, 98, 99, 100, 101, 102, 103, 104, 105, 106, 107, 108, 109, 110, 111, 112, 113, 114, 115, 116, 117, 118, 119, 120, 121, 122, 123, 268, 269, 270, 271, 272, 273, 274, 275, 276, 277, 278, 279, 280, 281, 282, 283, 284, 285, 286, 287, 288, 289, 290, 291, 292, 293, 294, 295, 296, 297] (by decide +kernel) (by decide +kernel)
set_option maxRecDepth 20000 in
theorem gL_does_L_isArgued : GoodIn wsL_does (va_wsS RL 68 yL_isArgued wsL_isArgued) := goodIn_app (goodIn_of _ (by decide +kernel)) ggL_does_L_isArgued
set_option maxRecDepth 20000 in
theorem ggL_does_L_isRound : GoodIn wsL_does wsL_isRound := goodIn_r _ [126, 127, 128, 129, 130, 12, 131, 16, 132, 133, 134, 20, 135, 136, 137, 138, 139, 31, 140, 141, 142, 143, 68, 67, 26, 144, 145, 146, 147, 148, 149, 150, 151, 152, 153, 154, 155, 156, 157, 158, 84, 9, 10, 11, 13, 14, 15, 17, 18, 19, 21, 22, 23, 24, 25, 27, 28, 29, 30, 32, 33, 34, 35, 36, 37, 38, 39, 40, 41, 42, 43, 76, 77, 78, 79, 80, 81, 82, 83, 85, 86, 87, 88, 89, 159, 160, 3, 161, 162, 163, 164, 165, 166, 167, 168, 169, 44, 45, 46, 47, 48, 49, 50, 51, 52, 53, 54, 55, 56, 57, 58, 59, 60, 61, 62, 63, 64, 65, 66, 69, 70, 71, 72, 170, 171, 172, 173, 94, 95, 96, 97, 98, 99, 100, 101, 102, 103, 104, 105, 106, 107, 108, 174, 175, 176, 177, 178, 179, 180, 181, 182, 183, 184, 185, 186, 187, 188, 116, 117, 118, 119, 120, 121, 122, 123, 268, 269, 270, 271, 272, 283, 284, 285, 286, 287, 288, 289, 290, 291, 292, 293, 294, 295, 296, 297, 273, 274, 275, 276, 277, 278, 279, 280, 281, 282] rfl (by decide +kernel)
set_option maxRecDepth 20000 in
theorem gL_does_L_isRound : GoodIn wsL_does (va_wsS RL 72 yL_isRound wsL_isRound) := goodIn_app (goodIn_of _ (by decide +kernel)) ggL_does_L_isRound
set_option maxRecDepth 20000 in
theorem ggL_does_X3_count : GoodIn wsL_does wsX3_count := goodIn_r _ [13, 14, 15, 16, 17, 18, 19, 20, 21, 22, 23, 24, 25, 26, 27, 28, 29, 30, 31, 32, 33, 34, 35, 36, 37, 38, 39, 40, 41, 42, 43, 268, 269, 270, 271, 272, 273, 274, 275, 276, 277, 278, 279, 280, 281, 282, 283, 284, 285, 286, 287, 288, 289, 290, 291, 292, 293, 294, 295, 296, 297] (by decide +kernel) (by decide +kernel)
set_option maxRecDepth 20000 in
theorem gL_does_X3_count : GoodIn wsL_does (wsV RL 14 RX3 yX3_count wsX3_count) := goodIn_app (goodIn_of _ (by decide +kernel)) ggL_does_X3_count
set_option maxRecDepth 20000 in
theorem ggL_does_X3_chosen : GoodIn wsL_does wsX3_chosen := goodIn_r _ [192, 16, 193, 194, 195, 20, 196, 22, 86, 40, 41, 42, 43, 31, 268, 269, 270, 271, 272, 283, 284, 285, 286, 287, 288, 289, 290, 291, 292, 293, 294, 295, 296, 297] (by decide +kernel) (by decide +kernel)
set_option maxRecDepth 20000 in
theorem gL_does_X3_chosen : GoodIn wsL_does (wsV RL 46 RX3 yX3_chosen wsX3_chosen) := goodIn_app (goodIn_of _ (by decide +kernel)) ggL_does_X3_chosen
set_option maxRecDepth 20000 in
theorem ggL_does_L_isPrinted : GoodIn wsL_does wsL_isPrinted := goodIn_r _ [199, 76, 77, 78, 12, 79, 16, 80, 81, 82, 20, 83, 31, 67, 68, 84, 85, 86, 87, 88, 89, 9, 10, 11, 13, 14, 15, 17, 18, 19, 21, 22, 23, 24, 25, 26, 27, 28, 29, 30, 32, 33, 34, 35, 36, 37, 38, 39, 40, 41, 42, 43, 200, 201, 202, 203, 94, 95, 96, 97, 98, 99, 100, 101, 102, 103, 104, 105, 106, 107, 108, 52, 53, 54, 55, 204, 205, 206, 207, 208, 209, 210, 116, 117, 118, 119, 120, 121, 122, 123, 268, 269, 270, 271, 272, 283, 284, 285, 286, 287, 288, 289, 290, 291, 292, 293, 294, 295, 296, 297, 273, 274, 275, 276, 277, 278, 279, 280, 281, 282] (by decide +kernel) (by decide +kernel)
set_option maxRecDepth 20000 in
theorem gL_does_L_isPrinted : GoodIn wsL_does (va_wsS RL 76 yL_isPrinted wsL_isPrinted) := goodIn_app (goodIn_of _ (by decide +kernel)) ggL_does_L_isPrinted
set_option maxRecDepth 20000 in
theorem ggL_does_X3_buy : GoodIn wsL_does wsX3_buy := goodIn_r _ [214, 15, 16, 94, 95, 96, 97, 98, 99, 100, 101, 102, 103, 20, 104, 26, 105, 106, 107, 108, 31, 67, 68, 84, 85, 86, 52, 53, 54, 55, 25, 22, 23, 24, 215, 216, 217, 218, 178, 179, 38, 180, 116, 117, 118, 12, 119, 120, 121, 122, 123, 268, 269, 270, 271, 272, 281, 282, 283, 284, 285, 286, 287, 288, 289, 290, 291, 292, 293, 294, 295, 296, 297] (by decide +kernel) (by decide +kernel)
set_option maxRecDepth 20000 in
theorem gL_does_X3_buy : GoodIn wsL_does (wsV RL 80 RX3 yX3_buy wsX3_buy) := goodIn_app (goodIn_of _ (by decide +kernel)) ggL_does_X3_buy
set_option maxRecDepth 20000 in
theorem ggL_does_X3_of : GoodIn wsL_does wsX3_of := goodIn_r _ [79, 16, 80, 81, 82, 20, 83, 31, 67, 68, 84, 85, 86, 87, 88, 89, 268, 269, 270, 271, 272, 283, 284, 285, 286, 287, 288, 289, 290, 291, 292, 293, 294, 295, 296, 297] (by decide +kernel) (by decide +kernel)
set_option maxRecDepth 20000 in
theorem gL_does_X3_of : GoodIn wsL_does (wsV RL 8 RX3 yX3_of wsX3_of) := goodIn_app (goodIn_of _ (by decide +kernel)) ggL_does_X3_of
set_option maxRecDepth 20000 in
theorem ggL_does_X3_reopen : GoodIn wsL_does wsX3_reopen := goodIn_r _ [222, 15, 16, 94, 95, 96, 97, 98, 99, 100, 101, 102, 103, 20, 104, 26, 105, 106, 107, 108, 31, 67, 68, 84, 85, 86, 52, 53, 54, 55, 25, 22, 23, 24, 223, 224, 225, 226, 87, 88, 89, 116, 117, 118, 12, 119, 120, 121, 122, 123, 268, 269, 270, 271, 272, 281, 282, 283, 284, 285, 286, 287, 288, 289, 290, 291, 292, 293, 294, 295, 296, 297] (by decide +kernel) (by decide +kernel)
set_option maxRecDepth 20000 in
theorem gL_does_X3_reopen : GoodIn wsL_does (wsV RL 83 RX3 yX3_reopen wsX3_reopen) := goodIn_app (goodIn_of _ (by decide +kernel)) ggL_does_X3_reopen
set_option maxRecDepth 20000 in
theorem ggL_does_X3_set : GoodIn wsL_does wsX3_set := goodIn_r _ [230, 15, 16, 94, 95, 96, 97, 98, 99, 100, 101, 102, 103, 20, 104, 26, 105, 106, 107, 108, 31, 67, 68, 84, 85, 86, 52, 53, 54, 55, 25, 22, 23, 24, 231, 232, 233, 234, 235, 236, 116, 117, 118, 12, 119, 120, 121, 122, 123, 268, 269, 270, 271, 272, 281, 282, 283, 284, 285, 286, 287, 288, 289, 290, 291, 292, 293, 294, 295, 296, 297] (by decide +kernel) (by decide +kernel)
set_option maxRecDepth 20000 in
theorem gL_does_X3_set : GoodIn wsL_does (wsV RL 86 RX3 yX3_set wsX3_set) := goodIn_app (goodIn_of _ (by decide +kernel)) ggL_does_X3_set
set_option maxRecDepth 20000 in
theorem ggL_does_L_isDecided : GoodIn wsL_does wsL_isDecided := goodIn_r _ [239, 240, 241, 242, 12, 243, 16, 244, 245, 246, 20, 247, 31, 87, 88, 89, 248, 249, 250, 251, 67, 68, 151, 152, 153, 154, 26, 144, 145, 146, 147, 148, 149, 150, 113, 114, 115, 9, 10, 11, 13, 14, 15, 17, 18, 19, 21, 22, 23, 24, 25, 27, 28, 29, 30, 32, 33, 34, 35, 36, 37, 38, 39, 40, 41, 42, 43, 76, 77, 78, 79, 80, 81, 82, 83, 84, 85, 86, 73, 74, 3, 75, 162, 163, 164, 165, 166, 167, 168, 169, 252, 253, 254, 255, 94, 95, 96, 97, 98, 99, 100, 101, 102, 103, 104, 105, 106, 107, 108, 52, 53, 54, 55, 256, 257, 258, 259, 56, 57, 58, 63, 64, 65, 66, 69, 70, 71, 72, 59, 60, 61, 62, 116, 117, 118, 119, 120, 121, 122, 123, 260, 261, 262, 263, 264, 265, 266, 267, 268, 269, 270, 271, 272, 283, 284, 285, 286, 287, 288, 289, 290, 291, 292, 293, 294, 295, 296, 297, 273, 274, 275, 276, 277, 278, 279, 280, 281, 282] (by decide +kernel) (by decide +kernel)
set_option maxRecDepth 20000 in
theorem gL_does_L_isDecided : GoodIn wsL_does (va_wsS RL 89 yL_isDecided wsL_isDecided) := goodIn_app (goodIn_of _ (by decide +kernel)) ggL_does_L_isDecided
set_option maxRecDepth 20000 in
theorem ggL_does_L_mark : GoodIn wsL_does wsL_mark := goodIn_r _ [75, 76, 77, 78, 12, 79, 16, 80, 81, 82, 20, 83, 31, 67, 68, 84, 85, 86, 87, 88, 89, 268, 269, 270, 271, 272, 283, 284, 285, 286, 287, 288, 289, 290, 291, 292, 293, 294, 295, 296, 297] (by decide +kernel) (by decide +kernel)
set_option maxRecDepth 20000 in
theorem gL_does_L_mark : GoodIn wsL_does (va_wsS RL 36 yL_mark wsL_mark) := goodIn_app (goodIn_of _ (by decide +kernel)) ggL_does_L_mark
set_option maxRecDepth 20000 in
theorem ggL_does_X3_editor : GoodIn wsL_does wsX3_editor := goodIn_r _ [47, 16, 48, 49, 50, 20, 51, 52, 53, 54, 55, 56, 57, 58, 59, 60, 61, 62, 63, 64, 65, 66, 67, 68, 69, 70, 71, 72, 26, 36, 37, 38, 39, 268, 269, 270, 271, 272, 283, 284, 285, 286, 287, 288, 289, 290, 291, 292, 293, 294, 295, 296, 297] (by decide +kernel) (by decide +kernel)
set_option maxRecDepth 20000 in
theorem gL_does_X3_editor : GoodIn wsL_does (wsV RL 40 RX3 yX3_editor wsX3_editor) := goodIn_app (goodIn_of _ (by decide +kernel)) ggL_does_X3_editor
set_option maxRecDepth 20000 in
theorem ggL_does_X3_mark : GoodIn wsL_does wsX3_mark := goodIn_r _ [255, 15, 16, 94, 95, 96, 97, 98, 99, 100, 101, 102, 103, 20, 104, 26, 105, 106, 107, 108, 31, 67, 68, 84, 85, 86, 52, 53, 54, 55, 25, 22, 23, 24, 256, 257, 258, 259, 56, 57, 58, 87, 88, 89, 63, 64, 65, 66, 69, 70, 71, 72, 36, 37, 38, 39, 59, 60, 61, 62, 113, 114, 115, 116, 117, 118, 12, 119, 120, 121, 122, 123, 268, 269, 270, 271, 272, 281, 282, 283, 284, 285, 286, 287, 288, 289, 290, 291, 292, 293, 294, 295, 296, 297] (by decide +kernel) (by decide +kernel)
set_option maxRecDepth 20000 in
theorem gL_does_X3_mark : GoodIn wsL_does (wsV RL 57 RX3 yX3_mark wsX3_mark) := goodIn_app (goodIn_of _ (by decide +kernel)) ggL_does_X3_mark
