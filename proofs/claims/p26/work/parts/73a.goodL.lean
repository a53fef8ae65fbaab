set_option maxRecDepth 20000 in
theorem ggL_mark_X3_of : GoodIn wsL_mark wsX3_of := goodIn_r _ [5, 6, 7, 8, 9, 10, 11, 12, 13, 14, 15, 16, 17, 18, 19, 20, 21, 22, 23, 24, 25, 26, 27, 28, 29, 30, 31, 32, 33, 34, 35, 36, 37, 38, 39, 40] (by decide +kernel) (by decide +kernel)
set_option maxRecDepth 20000 in
theorem gL_mark_X3_of : GoodIn wsL_mark (wsV RL 8 RX3 yX3_of wsX3_of) := goodIn_app (goodIn_of _ (by decide +kernel)) ggL_mark_X3_of
set_option maxRecDepth 20000 in
theorem ggL_areFrames_X3_of : GoodIn wsL_areFrames wsX3_of := goodIn_r _ [6, 7, 8, 9, 10, 11, 12, 13, 14, 15, 16, 17, 18, 19, 20, 21, 122, 123, 124, 125, 126, 127, 128, 129, 130, 131, 132, 133, 134, 135, 136, 137, 138, 139, 140, 141] (by decide +kernel) (by decide +kernel)
set_option maxRecDepth 20000 in
theorem gL_areFrames_X3_of : GoodIn wsL_areFrames (wsV RL 8 RX3 yX3_of wsX3_of) := goodIn_app (goodIn_of _ (by decide +kernel)) ggL_areFrames_X3_of
set_option maxRecDepth 20000 in
theorem ggL_areFrames_X3_count : GoodIn wsL_areFrames wsX3_count := goodIn_r _ [25, 26, 27, 7, 28, 29, 30, 11, 31, 32, 33, 34, 35, 36, 37, 38, 39, 40, 13, 41, 42, 43, 44, 45, 46, 47, 48, 49, 50, 51, 52, 122, 123, 124, 125, 126, 142, 143, 144, 145, 146, 147, 148, 149, 150, 151, 127, 128, 129, 130, 131, 132, 133, 134, 135, 136, 137, 138, 139, 140, 141] (by decide +kernel) (by decide +kernel)
set_option maxRecDepth 20000 in
theorem gL_areFrames_X3_count : GoodIn wsL_areFrames (wsV RL 14 RX3 yX3_count wsX3_count) := goodIn_app (goodIn_of _ (by decide +kernel)) ggL_areFrames_X3_count
set_option maxRecDepth 20000 in
theorem ggL_areFrames_L_ones : GoodIn wsL_areFrames wsL_ones := goodIn_r _ [56] (by decide +kernel) (by decide +kernel)
set_option maxRecDepth 20000 in
theorem gL_areFrames_L_ones : GoodIn wsL_areFrames (va_wsS RL 18 yL_ones wsL_ones) := goodIn_app (goodIn_of _ (by decide +kernel)) ggL_areFrames_L_ones
set_option maxRecDepth 20000 in
theorem ggL_areFrames_X3_why : GoodIn wsL_areFrames wsX3_why := goodIn_r _ [60, 7, 61, 62, 63, 11, 64, 13, 15, 14, 19, 20, 21, 65, 66, 67, 68, 36, 69, 70, 71, 72, 73, 74, 75, 122, 123, 124, 125, 126, 127, 128, 129, 130, 131, 132, 133, 134, 135, 136, 137, 138, 139, 140, 141] (by decide +kernel) (by decide +kernel)
set_option maxRecDepth 20000 in
theorem gL_areFrames_X3_why : GoodIn wsL_areFrames (wsV RL 23 RX3 yX3_why wsX3_why) := goodIn_app (goodIn_of _ (by decide +kernel)) ggL_areFrames_X3_why
set_option maxRecDepth 20000 in
theorem ggL_areFrames_X3_decides : GoodIn wsL_areFrames wsX3_decides := goodIn_r _ [79, 7, 80, 81, 82, 11, 83, 13, 19, 20, 21, 84, 85, 86, 87, 14, 15, 65, 66, 67, 68, 36, 69, 70, 71, 72, 73, 74, 75, 88, 89, 90, 122, 123, 124, 125, 126, 127, 128, 129, 130, 131, 132, 133, 134, 135, 136, 137, 138, 139, 140, 141] (by decide +kernel) (by decide +kernel)
set_option maxRecDepth 20000 in
theorem gL_areFrames_X3_decides : GoodIn wsL_areFrames (wsV RL 26 RX3 yX3_decides wsX3_decides) := goodIn_app (goodIn_of _ (by decide +kernel)) ggL_areFrames_X3_decides
set_option maxRecDepth 20000 in
theorem ggL_areFrames_X3_ifRound : GoodIn wsL_areFrames wsX3_ifRound := goodIn_r _ [94, 7, 95, 96, 97, 11, 98, 99, 100, 101, 102, 13, 103, 104, 105, 106, 15, 14, 36, 69, 70, 71, 72, 73, 74, 75, 65, 66, 67, 68, 107, 108, 109, 110, 16, 122, 123, 124, 125, 126, 127, 128, 129, 130, 131, 132, 133, 134, 135, 136, 137, 138, 139, 140, 141] (by decide +kernel) (by decide +kernel)
set_option maxRecDepth 20000 in
theorem gL_areFrames_X3_ifRound : GoodIn wsL_areFrames (wsV RL 29 RX3 yX3_ifRound wsX3_ifRound) := goodIn_app (goodIn_of _ (by decide +kernel)) ggL_areFrames_X3_ifRound
set_option maxRecDepth 20000 in
theorem ggL_areFrames_X3_paperFor : GoodIn wsL_areFrames wsX3_paperFor := goodIn_r _ [114, 7, 115, 116, 117, 11, 118, 13, 17, 119, 120, 121, 122, 123, 124, 125, 126, 127, 128, 129, 130, 131, 132, 133, 134, 135, 136, 137, 138, 139, 140, 141] (by decide +kernel) (by decide +kernel)
set_option maxRecDepth 20000 in
theorem gL_areFrames_X3_paperFor : GoodIn wsL_areFrames (wsV RL 32 RX3 yX3_paperFor wsX3_paperFor) := goodIn_app (goodIn_of _ (by decide +kernel)) ggL_areFrames_X3_paperFor
set_option maxRecDepth 20000 in
theorem ggL_areEditors_L_mark : GoodIn wsL_areEditors wsL_mark := goodIn_r _ [4, 5, 6, 7, 8, 9, 10, 11, 12, 13, 14, 15, 16, 17, 18, 19, 20, 21, 22, 23, 24, 91, 92, 93, 94, 95, 96, 97, 98, 99, 100, 101, 102, 103, 104, 105, 106, 107, 108, 109, 110] (by decide +kernel) (by decide +kernel)
set_option maxRecDepth 20000 in
theorem gL_areEditors_L_mark : GoodIn wsL_areEditors (va_wsS RL 36 yL_mark wsL_mark) := goodIn_app (goodIn_of _ (by decide +kernel)) ggL_areEditors_L_mark
set_option maxRecDepth 20000 in
theorem ggL_areEditors_X3_count : GoodIn wsL_areEditors wsX3_count := goodIn_r _ [28, 29, 30, 10, 31, 32, 33, 14, 34, 35, 36, 37, 38, 39, 40, 41, 42, 43, 16, 44, 45, 46, 47, 48, 49, 50, 51, 52, 53, 54, 55, 91, 92, 93, 94, 95, 111, 112, 113, 114, 115, 116, 117, 118, 119, 120, 96, 97, 98, 99, 100, 101, 102, 103, 104, 105, 106, 107, 108, 109, 110] (by decide +kernel) (by decide +kernel)
set_option maxRecDepth 20000 in
theorem gL_areEditors_X3_count : GoodIn wsL_areEditors (wsV RL 14 RX3 yX3_count wsX3_count) := goodIn_app (goodIn_of _ (by decide +kernel)) ggL_areEditors_X3_count
set_option maxRecDepth 20000 in
theorem ggL_areEditors_X3_editor : GoodIn wsL_areEditors wsX3_editor := goodIn_r _ [59, 10, 60, 61, 62, 14, 63, 64, 65, 66, 67, 68, 69, 70, 71, 72, 73, 74, 75, 76, 77, 78, 17, 18, 79, 80, 81, 82, 39, 48, 49, 50, 51, 91, 92, 93, 94, 95, 96, 97, 98, 99, 100, 101, 102, 103, 104, 105, 106, 107, 108, 109, 110] (by decide +kernel) (by decide +kernel)
set_option maxRecDepth 20000 in
theorem gL_areEditors_X3_editor : GoodIn wsL_areEditors (wsV RL 40 RX3 yX3_editor wsX3_editor) := goodIn_app (goodIn_of _ (by decide +kernel)) ggL_areEditors_X3_editor
set_option maxRecDepth 20000 in
theorem ggL_areEditors_X3_agree : GoodIn wsL_areEditors wsX3_agree := goodIn_r _ [86, 10, 87, 88, 89, 14, 90, 68, 69, 70, 75, 76, 77, 78, 17, 18, 91, 92, 93, 94, 95, 96, 97, 98, 99, 100, 101, 102, 103, 104, 105, 106, 107, 108, 109, 110] (by decide +kernel) (by decide +kernel)
set_option maxRecDepth 20000 in
theorem gL_areEditors_X3_agree : GoodIn wsL_areEditors (wsV RL 43 RX3 yX3_agree wsX3_agree) := goodIn_app (goodIn_of _ (by decide +kernel)) ggL_areEditors_X3_agree
set_option maxRecDepth 20000 in
theorem ggL_areChosen_X3_count : GoodIn wsL_areChosen wsX3_count := goodIn_r _ [5, 6, 7, 8, 9, 10, 11, 12, 13, 14, 15, 16, 17, 18, 19, 20, 21, 22, 23, 24, 25, 26, 27, 28, 29, 30, 31, 32, 33, 34, 35, 60, 61, 62, 63, 64, 65, 66, 67, 68, 69, 70, 71, 72, 73, 74, 75, 76, 77, 78, 79, 80, 81, 82, 83, 84, 85, 86, 87, 88, 89] (by decide +kernel) (by decide +kernel)
set_option maxRecDepth 20000 in
theorem gL_areChosen_X3_count : GoodIn wsL_areChosen (wsV RL 14 RX3 yX3_count wsX3_count) := goodIn_app (goodIn_of _ (by decide +kernel)) ggL_areChosen_X3_count
set_option maxRecDepth 20000 in
theorem ggL_areChosen_X3_chosen : GoodIn wsL_areChosen wsX3_chosen := goodIn_r _ [39, 8, 40, 41, 42, 12, 43, 14, 44, 32, 33, 34, 35, 23, 60, 61, 62, 63, 64, 75, 76, 77, 78, 79, 80, 81, 82, 83, 84, 85, 86, 87, 88, 89] (by decide +kernel) (by decide +kernel)
set_option maxRecDepth 20000 in
theorem gL_areChosen_X3_chosen : GoodIn wsL_areChosen (wsV RL 46 RX3 yX3_chosen wsX3_chosen) := goodIn_app (goodIn_of _ (by decide +kernel)) ggL_areChosen_X3_chosen
set_option maxRecDepth 20000 in
theorem ggL_areChosen_X3_of : GoodIn wsL_areChosen wsX3_of := goodIn_r _ [48, 8, 49, 50, 51, 12, 52, 23, 53, 54, 55, 56, 44, 57, 58, 59, 60, 61, 62, 63, 64, 75, 76, 77, 78, 79, 80, 81, 82, 83, 84, 85, 86, 87, 88, 89] (by decide +kernel) (by decide +kernel)
set_option maxRecDepth 20000 in
theorem gL_areChosen_X3_of : GoodIn wsL_areChosen (wsV RL 8 RX3 yX3_of wsX3_of) := goodIn_app (goodIn_of _ (by decide +kernel)) ggL_areChosen_X3_of
