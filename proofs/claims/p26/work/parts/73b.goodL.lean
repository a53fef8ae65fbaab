set_option maxRecDepth 20000 in
theorem ggL_isRound_X3_ifRound : GoodIn wsL_isRound wsX3_ifRound := goodIn_r _ [6, 7, 8, 9, 10, 11, 12, 13, 14, 15, 16, 17, 18, 19, 20, 21, 22, 23, 24, 25, 26, 27, 28, 29, 30, 31, 32, 33, 34, 35, 36, 37, 38, 39, 40, 165, 166, 167, 168, 169, 170, 171, 172, 173, 174, 175, 176, 177, 178, 179, 180, 181, 182, 183, 184] (by decide +kernel) (by decide +kernel)
set_option maxRecDepth 20000 in
theorem gL_isRound_X3_ifRound : GoodIn wsL_isRound (wsV RL 29 RX3 yX3_ifRound wsX3_ifRound) := goodIn_app (goodIn_of _ (by decide +kernel)) ggL_isRound_X3_ifRound
set_option maxRecDepth 20000 in
theorem ggL_isRound_X3_count : GoodIn wsL_isRound wsX3_count := goodIn_r _ [44, 45, 46, 7, 47, 48, 49, 11, 50, 51, 52, 53, 54, 24, 55, 56, 57, 58, 17, 59, 60, 61, 62, 63, 64, 65, 66, 67, 68, 69, 70, 165, 166, 167, 168, 169, 185, 186, 187, 188, 189, 190, 191, 192, 193, 194, 170, 171, 172, 173, 174, 175, 176, 177, 178, 179, 180, 181, 182, 183, 184] (by decide +kernel) (by decide +kernel)
set_option maxRecDepth 20000 in
theorem gL_isRound_X3_count : GoodIn wsL_isRound (wsV RL 14 RX3 yX3_count wsX3_count) := goodIn_app (goodIn_of _ (by decide +kernel)) ggL_isRound_X3_count
set_option maxRecDepth 20000 in
theorem ggL_isRound_X3_of : GoodIn wsL_isRound wsX3_of := goodIn_r _ [74, 7, 75, 76, 77, 11, 78, 17, 23, 22, 40, 79, 80, 81, 82, 83, 165, 166, 167, 168, 169, 170, 171, 172, 173, 174, 175, 176, 177, 178, 179, 180, 181, 182, 183, 184] (by decide +kernel) (by decide +kernel)
set_option maxRecDepth 20000 in
theorem gL_isRound_X3_of : GoodIn wsL_isRound (wsV RL 8 RX3 yX3_of wsX3_of) := goodIn_app (goodIn_of _ (by decide +kernel)) ggL_isRound_X3_of
set_option maxRecDepth 20000 in
theorem ggL_isRound_L_ones : GoodIn wsL_isRound wsL_ones := goodIn_r _ [87] (by decide +kernel) (by decide +kernel)
set_option maxRecDepth 20000 in
theorem gL_isRound_L_ones : GoodIn wsL_isRound (va_wsS RL 18 yL_ones wsL_ones) := goodIn_app (goodIn_of _ (by decide +kernel)) ggL_isRound_L_ones
set_option maxRecDepth 20000 in
theorem ggL_isRound_X3_why : GoodIn wsL_isRound wsX3_why := goodIn_r _ [91, 7, 92, 93, 94, 11, 95, 17, 22, 23, 81, 82, 83, 32, 33, 34, 35, 24, 25, 26, 27, 28, 29, 30, 31, 165, 166, 167, 168, 169, 170, 171, 172, 173, 174, 175, 176, 177, 178, 179, 180, 181, 182, 183, 184] (by decide +kernel) (by decide +kernel)
set_option maxRecDepth 20000 in
theorem gL_isRound_X3_why : GoodIn wsL_isRound (wsV RL 23 RX3 yX3_why wsX3_why) := goodIn_app (goodIn_of _ (by decide +kernel)) ggL_isRound_X3_why
set_option maxRecDepth 20000 in
theorem ggL_isRound_X3_editor : GoodIn wsL_isRound wsX3_editor := goodIn_r _ [99, 7, 100, 101, 102, 11, 103, 104, 105, 106, 107, 108, 109, 110, 111, 112, 113, 114, 115, 116, 117, 118, 23, 22, 119, 120, 121, 122, 24, 63, 64, 65, 66, 165, 166, 167, 168, 169, 170, 171, 172, 173, 174, 175, 176, 177, 178, 179, 180, 181, 182, 183, 184] (by decide +kernel) (by decide +kernel)
set_option maxRecDepth 20000 in
theorem gL_isRound_X3_editor : GoodIn wsL_isRound (wsV RL 40 RX3 yX3_editor wsX3_editor) := goodIn_app (goodIn_of _ (by decide +kernel)) ggL_isRound_X3_editor
set_option maxRecDepth 20000 in
theorem ggL_isRound_X3_round : GoodIn wsL_isRound wsX3_round := goodIn_r _ [126, 46, 7, 127, 128, 129, 130, 131, 132, 133, 134, 135, 136, 11, 137, 24, 138, 139, 140, 141, 17, 23, 22, 40, 79, 80, 104, 105, 106, 107, 54, 51, 52, 53, 142, 143, 144, 145, 146, 147, 65, 148, 149, 150, 151, 152, 18, 19, 20, 21, 25, 26, 27, 28, 29, 30, 31, 32, 33, 34, 35, 36, 37, 38, 39, 153, 154, 155, 156, 115, 116, 117, 118, 157, 158, 159, 5, 160, 161, 162, 163, 164, 165, 166, 167, 168, 169, 193, 194, 170, 171, 172, 173, 174, 175, 176, 177, 178, 179, 180, 181, 182, 183, 184] (by decide +kernel) (by decide +kernel)
set_option maxRecDepth 20000 in
theorem gL_isRound_X3_round : GoodIn wsL_isRound (wsV RL 50 RX3 yX3_round wsX3_round) := goodIn_app (goodIn_of _ (by decide +kernel)) ggL_isRound_X3_round
set_option maxRecDepth 20000 in
theorem ggL_isArgued_X3_count : GoodIn wsL_isArgued wsX3_count := goodIn_r _ [5, 6, 7, 8, 9, 10, 11, 12, 13, 14, 15, 16, 17, 18, 19, 20, 21, 22, 23, 24, 25, 26, 27, 28, 29, 30, 31, 32, 33, 34, 35, 117, 118, 119, 120, 121, 122, 123, 124, 125, 126, 127, 128, 129, 130, 131, 132, 133, 134, 135, 136, 137, 138, 139, 140, 141, 142, 143, 144, 145, 146] (by decide +kernel) (by decide +kernel)
set_option maxRecDepth 20000 in
theorem gL_isArgued_X3_count : GoodIn wsL_isArgued (wsV RL 14 RX3 yX3_count wsX3_count) := goodIn_app (goodIn_of _ (by decide +kernel)) ggL_isArgued_X3_count
set_option maxRecDepth 20000 in
theorem ggL_isArgued_X3_editor : GoodIn wsL_isArgued wsX3_editor := goodIn_r _ [39, 8, 40, 41, 42, 12, 43, 44, 45, 46, 47, 48, 49, 50, 51, 52, 53, 54, 55, 56, 57, 58, 59, 60, 61, 62, 63, 64, 18, 28, 29, 30, 31, 117, 118, 119, 120, 121, 132, 133, 134, 135, 136, 137, 138, 139, 140, 141, 142, 143, 144, 145, 146] (by decide +kernel) (by decide +kernel)
set_option maxRecDepth 20000 in
theorem gL_isArgued_X3_editor : GoodIn wsL_isArgued (wsV RL 40 RX3 yX3_editor wsX3_editor) := goodIn_app (goodIn_of _ (by decide +kernel)) ggL_isArgued_X3_editor
set_option maxRecDepth 20000 in
theorem ggL_isArgued_L_mark : GoodIn wsL_isArgued wsL_mark := goodIn_r _ [68, 69, 70, 71, 4, 72, 8, 73, 74, 75, 12, 76, 23, 59, 60, 77, 78, 79, 80, 81, 82, 117, 118, 119, 120, 121, 132, 133, 134, 135, 136, 137, 138, 139, 140, 141, 142, 143, 144, 145, 146] (by decide +kernel) (by decide +kernel)
set_option maxRecDepth 20000 in
theorem gL_isArgued_L_mark : GoodIn wsL_isArgued (va_wsS RL 36 yL_mark wsL_mark) := goodIn_app (goodIn_of _ (by decide +kernel)) ggL_isArgued_L_mark
set_option maxRecDepth 20000 in
theorem ggL_isArgued_X3_argue : GoodIn wsL_isArgued wsX3_argue := goodIn_r _ [86, 7, 8, 87, 88, 89, 90, 91, 92, 93, 94, 95, 96, 12, 97, 18, 98, 99, 100, 101, 23, 59, 60, 77, 78, 79, 44, 45, 46, 47, 17, 14, 15, 16, 102, 103, 104, 105, 48, 49, 50, 80, 81, 82, 55, 56, 57, 58, 106, 107, 108, 109, 110, 111, 4, 112, 113, 114, 115, 116, 117, 118, 119, 120, 121, 130, 131, 132, 133, 134, 135, 136, 137, 138, 139, 140, 141, 142, 143, 144, 145, 146] (by decide +kernel) (by decide +kernel)
set_option maxRecDepth 20000 in
theorem gL_isArgued_X3_argue : GoodIn wsL_isArgued (wsV RL 53 RX3 yX3_argue wsX3_argue) := goodIn_app (goodIn_of _ (by decide +kernel)) ggL_isArgued_X3_argue
set_option maxRecDepth 20000 in
theorem ggL_isDecided_X3_decides : GoodIn wsL_isDecided wsX3_decides := goodIn_r _ [5, 6, 7, 8, 9, 10, 11, 12, 13, 14, 15, 16, 17, 18, 19, 20, 21, 22, 23, 24, 25, 26, 27, 28, 29, 30, 31, 32, 33, 34, 35, 36, 148, 149, 150, 151, 152, 153, 154, 155, 156, 157, 158, 159, 160, 161, 162, 163, 164, 165, 166, 167] (by decide +kernel) (by decide +kernel)
set_option maxRecDepth 20000 in
theorem gL_isDecided_X3_decides : GoodIn wsL_isDecided (wsV RL 26 RX3 yX3_decides wsX3_decides) := goodIn_app (goodIn_of _ (by decide +kernel)) ggL_isDecided_X3_decides
set_option maxRecDepth 20000 in
theorem ggL_isDecided_X3_count : GoodIn wsL_isDecided wsX3_count := goodIn_r _ [40, 41, 42, 6, 43, 44, 45, 10, 46, 47, 48, 49, 50, 26, 51, 52, 53, 54, 12, 55, 56, 57, 58, 59, 60, 61, 62, 63, 64, 65, 66, 148, 149, 150, 151, 152, 168, 169, 170, 171, 172, 173, 174, 175, 176, 177, 153, 154, 155, 156, 157, 158, 159, 160, 161, 162, 163, 164, 165, 166, 167] (by decide +kernel) (by decide +kernel)
set_option maxRecDepth 20000 in
theorem gL_isDecided_X3_count : GoodIn wsL_isDecided (wsV RL 14 RX3 yX3_count wsX3_count) := goodIn_app (goodIn_of _ (by decide +kernel)) ggL_isDecided_X3_count
set_option maxRecDepth 20000 in
theorem ggL_isDecided_X3_of : GoodIn wsL_isDecided wsX3_of := goodIn_r _ [70, 6, 71, 72, 73, 10, 74, 12, 20, 21, 75, 76, 77, 13, 14, 15, 148, 149, 150, 151, 152, 153, 154, 155, 156, 157, 158, 159, 160, 161, 162, 163, 164, 165, 166, 167] (by decide +kernel) (by decide +kernel)
set_option maxRecDepth 20000 in
theorem gL_isDecided_X3_of : GoodIn wsL_isDecided (wsV RL 8 RX3 yX3_of wsX3_of) := goodIn_app (goodIn_of _ (by decide +kernel)) ggL_isDecided_X3_of
set_option maxRecDepth 20000 in
theorem ggL_isDecided_L_mark : GoodIn wsL_isDecided wsL_mark := goodIn_r _ [81, 67, 68, 69, 4, 70, 6, 71, 72, 73, 10, 74, 12, 20, 21, 75, 76, 77, 13, 14, 15, 148, 149, 150, 151, 152, 153, 154, 155, 156, 157, 158, 159, 160, 161, 162, 163, 164, 165, 166, 167] (by decide +kernel) (by decide +kernel)
set_option maxRecDepth 20000 in
theorem gL_isDecided_L_mark : GoodIn wsL_isDecided (va_wsS RL 36 yL_mark wsL_mark) := goodIn_app (goodIn_of _ (by decide +kernel)) ggL_isDecided_L_mark
set_option maxRecDepth 20000 in
theorem ggL_isDecided_X3_why : GoodIn wsL_isDecided wsX3_why := goodIn_r _ [85, 6, 86, 87, 88, 10, 89, 12, 21, 20, 13, 14, 15, 22, 23, 24, 25, 26, 27, 28, 29, 30, 31, 32, 33, 148, 149, 150, 151, 152, 153, 154, 155, 156, 157, 158, 159, 160, 161, 162, 163, 164, 165, 166, 167] (by decide +kernel) (by decide +kernel)
set_option maxRecDepth 20000 in
theorem gL_isDecided_X3_why : GoodIn wsL_isDecided (wsV RL 23 RX3 yX3_why wsX3_why) := goodIn_app (goodIn_of _ (by decide +kernel)) ggL_isDecided_X3_why
set_option maxRecDepth 20000 in
theorem ggL_isDecided_X3_mark : GoodIn wsL_isDecided wsX3_mark := goodIn_r _ [93, 42, 6, 94, 95, 96, 97, 98, 99, 100, 101, 102, 103, 10, 104, 26, 105, 106, 107, 108, 12, 20, 21, 75, 76, 77, 109, 110, 111, 112, 50, 47, 48, 49, 113, 114, 115, 116, 117, 118, 119, 13, 14, 15, 120, 121, 122, 123, 124, 125, 126, 127, 59, 60, 61, 62, 128, 129, 130, 131, 34, 35, 36, 132, 133, 134, 4, 135, 136, 137, 138, 139, 148, 149, 150, 151, 152, 176, 177, 153, 154, 155, 156, 157, 158, 159, 160, 161, 162, 163, 164, 165, 166, 167] (by decide +kernel) (by decide +kernel)
set_option maxRecDepth 20000 in
theorem gL_isDecided_X3_mark : GoodIn wsL_isDecided (wsV RL 57 RX3 yX3_mark wsX3_mark) := goodIn_app (goodIn_of _ (by decide +kernel)) ggL_isDecided_X3_mark
set_option maxRecDepth 20000 in
theorem ggL_isDecided_X3_undo : GoodIn wsL_isDecided wsX3_undo := goodIn_r _ [143, 42, 6, 144, 145, 146, 97, 147, 100, 99, 101, 102, 103, 10, 104, 26, 105, 106, 107, 108, 12, 20, 21, 75, 76, 77, 109, 110, 111, 112, 50, 47, 48, 49, 148, 149, 150, 151, 152, 176, 177, 153, 154, 155, 156, 157, 158, 159, 160, 161, 162, 163, 164, 165, 166, 167] (by decide +kernel) (by decide +kernel)
set_option maxRecDepth 20000 in
theorem gL_isDecided_X3_undo : GoodIn wsL_isDecided (wsV RL 59 RX3 yX3_undo wsX3_undo) := goodIn_app (goodIn_of _ (by decide +kernel)) ggL_isDecided_X3_undo
set_option maxRecDepth 20000 in
theorem ggL_isPrinted_X3_of : GoodIn wsL_isPrinted wsX3_of := goodIn_r _ [5, 6, 7, 8, 9, 10, 11, 12, 13, 14, 15, 16, 17, 18, 19, 20, 90, 91, 92, 93, 94, 95, 96, 97, 98, 99, 100, 101, 102, 103, 104, 105, 106, 107, 108, 109] (by decide +kernel) (by decide +kernel)
set_option maxRecDepth 20000 in
theorem gL_isPrinted_X3_of : GoodIn wsL_isPrinted (wsV RL 8 RX3 yX3_of wsX3_of) := goodIn_app (goodIn_of _ (by decide +kernel)) ggL_isPrinted_X3_of
set_option maxRecDepth 20000 in
theorem ggL_isPrinted_X3_count : GoodIn wsL_isPrinted wsX3_count := goodIn_r _ [24, 25, 26, 6, 27, 28, 29, 10, 30, 31, 32, 33, 34, 35, 36, 37, 38, 39, 12, 40, 41, 42, 43, 44, 45, 46, 47, 48, 49, 50, 51, 90, 91, 92, 93, 94, 110, 111, 112, 113, 114, 115, 116, 117, 118, 119, 95, 96, 97, 98, 99, 100, 101, 102, 103, 104, 105, 106, 107, 108, 109] (by decide +kernel) (by decide +kernel)
set_option maxRecDepth 20000 in
theorem gL_isPrinted_X3_count : GoodIn wsL_isPrinted (wsV RL 14 RX3 yX3_count wsX3_count) := goodIn_app (goodIn_of _ (by decide +kernel)) ggL_isPrinted_X3_count
set_option maxRecDepth 20000 in
theorem ggL_isPrinted_X3_print : GoodIn wsL_isPrinted wsX3_print := goodIn_r _ [55, 26, 6, 56, 57, 58, 59, 60, 61, 62, 63, 64, 65, 10, 66, 35, 67, 68, 69, 70, 12, 13, 14, 15, 16, 17, 71, 72, 73, 74, 34, 31, 32, 33, 75, 76, 77, 78, 18, 19, 20, 79, 80, 81, 82, 83, 84, 4, 85, 86, 87, 88, 89, 90, 91, 92, 93, 94, 118, 119, 95, 96, 97, 98, 99, 100, 101, 102, 103, 104, 105, 106, 107, 108, 109] (by decide +kernel) (by decide +kernel)
set_option maxRecDepth 20000 in
theorem gL_isPrinted_X3_print : GoodIn wsL_isPrinted (wsV RL 62 RX3 yX3_print wsX3_print) := goodIn_app (goodIn_of _ (by decide +kernel)) ggL_isPrinted_X3_print
