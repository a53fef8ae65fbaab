set_option maxRecDepth 20000 in
theorem ggX4_ahead_X4_at : GoodIn wsX4_ahead wsX4_at := goodIn_r _ [5] (by decide +kernel) (by decide +kernel)
set_option maxRecDepth 20000 in
theorem gX4_ahead_X4_at : GoodIn wsX4_ahead (va_wsS RX4 26 yX4_at wsX4_at) := goodIn_app (goodIn_of _ (by decide +kernel)) ggX4_ahead_X4_at
set_option maxRecDepth 20000 in
theorem ggX4_ahead_X4_isTaken : GoodIn wsX4_ahead wsX4_isTaken := goodIn_r _ [9, 1, 2, 3, 4, 5, 10, 11, 12, 13, 14, 15, 16] (by decide +kernel) (by decide +kernel)
set_option maxRecDepth 20000 in
theorem gX4_ahead_X4_isTaken : GoodIn wsX4_ahead (wsV RX4 114 RX4 yX4_isTaken wsX4_isTaken) := goodIn_app (goodIn_of _ (by decide +kernel)) ggX4_ahead_X4_isTaken
set_option maxRecDepth 20000 in
theorem ggX4_chosen_X4_isTaken : GoodIn wsX4_chosen wsX4_isTaken := goodIn_r _ [5, 6, 7, 8, 4, 9, 14, 15, 16, 17, 18, 19, 20] (by decide +kernel) (by decide +kernel)
set_option maxRecDepth 20000 in
theorem gX4_chosen_X4_isTaken : GoodIn wsX4_chosen (wsV RX4 114 RX4 yX4_isTaken wsX4_isTaken) := goodIn_app (goodIn_of _ (by decide +kernel)) ggX4_chosen_X4_isTaken
set_option maxRecDepth 20000 in
theorem ggX4_chosen_X4_ahead : GoodIn wsX4_chosen wsX4_ahead := goodIn_r _ [13, 6, 7, 8, 4, 9, 1, 2, 3, 5, 14, 15, 16, 17, 18, 19, 20] (by decide +kernel) (by decide +kernel)
set_option maxRecDepth 20000 in
theorem gX4_chosen_X4_ahead : GoodIn wsX4_chosen (wsV RX4 117 RX4 yX4_ahead wsX4_ahead) := goodIn_app (goodIn_of _ (by decide +kernel)) ggX4_chosen_X4_ahead
set_option maxRecDepth 20000 in
theorem ggX4_howMany_X4_at : GoodIn wsX4_howMany wsX4_at := goodIn_r _ [5] (by decide +kernel) (by decide +kernel)
set_option maxRecDepth 20000 in
theorem gX4_howMany_X4_at : GoodIn wsX4_howMany (va_wsS RX4 26 yX4_at wsX4_at) := goodIn_app (goodIn_of _ (by decide +kernel)) ggX4_howMany_X4_at
set_option maxRecDepth 20000 in
theorem ggX4_longestRow_X4_isTaken : GoodIn wsX4_longestRow wsX4_isTaken := goodIn_r _ [5, 6, 7, 8, 4, 9, 10, 11, 12, 13, 14, 15, 16] (by decide +kernel) (by decide +kernel)
set_option maxRecDepth 20000 in
theorem gX4_longestRow_X4_isTaken : GoodIn wsX4_longestRow (wsV RX4 114 RX4 yX4_isTaken wsX4_isTaken) := goodIn_app (goodIn_of _ (by decide +kernel)) ggX4_longestRow_X4_isTaken
set_option maxRecDepth 20000 in
theorem ggX4_count_X4_howMany : GoodIn wsX4_count wsX4_howMany := goodIn_r _ [8, 1, 9, 10, 7, 11, 23, 24, 25, 26, 27, 28, 29] (by decide +kernel) (by decide +kernel)
set_option maxRecDepth 20000 in
theorem gX4_count_X4_howMany : GoodIn wsX4_count (wsV RX4 120 RX4 yX4_howMany wsX4_howMany) := goodIn_app (goodIn_of _ (by decide +kernel)) ggX4_count_X4_howMany
set_option maxRecDepth 20000 in
theorem ggX4_count_X4_longestRow : GoodIn wsX4_count wsX4_longestRow := goodIn_r _ [15, 16, 17, 18, 7, 19, 1, 9, 10, 11, 23, 24, 25, 26, 27, 28, 29] (by decide +kernel) (by decide +kernel)
set_option maxRecDepth 20000 in
theorem gX4_count_X4_longestRow : GoodIn wsX4_count (wsV RX4 123 RX4 yX4_longestRow wsX4_longestRow) := goodIn_app (goodIn_of _ (by decide +kernel)) ggX4_count_X4_longestRow
set_option maxRecDepth 20000 in
theorem ggX4_count_X4_in : GoodIn wsX4_count wsX4_in := goodIn_r _ [22] (by decide +kernel) (by decide +kernel)
set_option maxRecDepth 20000 in
theorem gX4_count_X4_in : GoodIn wsX4_count (va_wsS RX4 33 yX4_in wsX4_in) := goodIn_app (goodIn_of _ (by decide +kernel)) ggX4_count_X4_in
set_option maxRecDepth 20000 in
theorem ggX4_reason_X4_isOpen : GoodIn wsX4_reason wsX4_isOpen := goodIn_r _ [6, 1, 7, 8, 5, 9, 24, 25, 26, 27, 28, 29, 30] (by decide +kernel) (by decide +kernel)
set_option maxRecDepth 20000 in
theorem gX4_reason_X4_isOpen : GoodIn wsX4_reason (wsV RX4 55 RX4 yX4_isOpen wsX4_isOpen) := goodIn_app (goodIn_of _ (by decide +kernel)) ggX4_reason_X4_isOpen
set_option maxRecDepth 20000 in
theorem ggX4_reason_X4_withMark : GoodIn wsX4_reason wsX4_withMark := goodIn_r _ [13, 14, 15, 16, 5, 17, 1, 7, 8, 9, 18, 19, 20, 24, 25, 26, 27, 28, 29, 30] (by decide +kernel) (by decide +kernel)
set_option maxRecDepth 20000 in
theorem gX4_reason_X4_withMark : GoodIn wsX4_reason (wsV RX4 78 RX4 yX4_withMark wsX4_withMark) := goodIn_app (goodIn_of _ (by decide +kernel)) ggX4_reason_X4_withMark
set_option maxRecDepth 20000 in
theorem ggX4_reason_X4_ones : GoodIn wsX4_reason wsX4_ones := goodIn_r _ [23] (by decide +kernel) (by decide +kernel)
set_option maxRecDepth 20000 in
theorem gX4_reason_X4_ones : GoodIn wsX4_reason (va_wsS RX4 81 yX4_ones wsX4_ones) := goodIn_app (goodIn_of _ (by decide +kernel)) ggX4_reason_X4_ones
set_option maxRecDepth 20000 in
theorem ggX4_why_X4_isFrame : GoodIn wsX4_why wsX4_isFrame := goodIn_r _ [4, 5, 6, 3, 7] (by decide +kernel) (by decide +kernel)
set_option maxRecDepth 20000 in
theorem gX4_why_X4_isFrame : GoodIn wsX4_why (va_wsS RX4 52 yX4_isFrame wsX4_isFrame) := goodIn_app (goodIn_of _ (by decide +kernel)) ggX4_why_X4_isFrame
set_option maxRecDepth 20000 in
theorem ggX4_why_X4_reason : GoodIn wsX4_why wsX4_reason := goodIn_r _ [11, 12, 13, 14, 15, 3, 16, 17, 18, 19, 20, 21, 22, 23, 24, 25, 26, 27, 28, 29, 30, 31, 32, 33, 34, 35, 36, 37, 38, 39, 40] (by decide +kernel) (by decide +kernel)
set_option maxRecDepth 20000 in
theorem gX4_why_X4_reason : GoodIn wsX4_why (wsV RX4 129 RX4 yX4_reason wsX4_reason) := goodIn_app (goodIn_of _ (by decide +kernel)) ggX4_why_X4_reason
set_option maxRecDepth 20000 in
theorem ggX4_ifRound_X4_in : GoodIn wsX4_ifRound wsX4_in := goodIn_r _ [4] (by decide +kernel) (by decide +kernel)
set_option maxRecDepth 20000 in
theorem gX4_ifRound_X4_in : GoodIn wsX4_ifRound (va_wsS RX4 33 yX4_in wsX4_in) := goodIn_app (goodIn_of _ (by decide +kernel)) ggX4_ifRound_X4_in
set_option maxRecDepth 20000 in
theorem ggX4_ifRound_X4_isOpen : GoodIn wsX4_ifRound wsX4_isOpen := goodIn_r _ [8, 9, 10, 11, 3, 12, 31, 32, 33, 34, 35, 36, 37] (by decide +kernel) (by decide +kernel)
set_option maxRecDepth 20000 in
theorem gX4_ifRound_X4_isOpen : GoodIn wsX4_ifRound (wsV RX4 55 RX4 yX4_isOpen wsX4_isOpen) := goodIn_app (goodIn_of _ (by decide +kernel)) ggX4_ifRound_X4_isOpen
set_option maxRecDepth 20000 in
theorem ggX4_ifRound_X4_then : GoodIn wsX4_ifRound wsX4_then := goodIn_r _ [16, 9, 17, 18, 19, 3, 20, 21, 22, 23, 24, 10, 11, 12, 25, 26, 27, 28, 29, 30, 31, 32, 33, 34, 35, 36, 37] (by decide +kernel) (by decide +kernel)
set_option maxRecDepth 20000 in
theorem gX4_ifRound_X4_then : GoodIn wsX4_ifRound (wsV RX4 84 RX4 yX4_then wsX4_then) := goodIn_app (goodIn_of _ (by decide +kernel)) ggX4_ifRound_X4_then
set_option maxRecDepth 20000 in
theorem ggX4_matters_X4_markOf : GoodIn wsX4_matters wsX4_markOf := goodIn_r _ [5, 6, 7, 8, 4, 9, 10, 11, 12, 32, 33, 34, 35, 36, 37, 38] (by decide +kernel) (by decide +kernel)
set_option maxRecDepth 20000 in
theorem gX4_matters_X4_markOf : GoodIn wsX4_matters (wsV RX4 45 RX4 yX4_markOf wsX4_markOf) := goodIn_app (goodIn_of _ (by decide +kernel)) ggX4_matters_X4_markOf
set_option maxRecDepth 20000 in
theorem ggX4_matters_X4_marks : GoodIn wsX4_matters wsX4_marks := goodIn_r _ [16, 6, 7, 8, 4, 9, 10, 11, 12, 1, 2, 3, 5, 32, 33, 34, 35, 36, 37, 38] (by decide +kernel) (by decide +kernel)
set_option maxRecDepth 20000 in
theorem gX4_matters_X4_marks : GoodIn wsX4_matters (wsV RX4 68 RX4 yX4_marks wsX4_marks) := goodIn_app (goodIn_of _ (by decide +kernel)) ggX4_matters_X4_marks
set_option maxRecDepth 20000 in
theorem ggX4_matters_X4_reason : GoodIn wsX4_matters wsX4_reason := goodIn_r _ [20, 6, 21, 22, 23, 4, 24, 7, 8, 9, 25, 26, 27, 28, 1, 2, 3, 5, 10, 11, 12, 29, 30, 31, 32, 33, 34, 35, 36, 37, 38] (by decide +kernel) (by decide +kernel)
set_option maxRecDepth 20000 in
theorem gX4_matters_X4_reason : GoodIn wsX4_matters (wsV RX4 129 RX4 yX4_reason wsX4_reason) := goodIn_app (goodIn_of _ (by decide +kernel)) ggX4_matters_X4_reason
set_option maxRecDepth 20000 in
theorem ggX4_decides_X4_isFrame : GoodIn wsX4_decides wsX4_isFrame := goodIn_r _ [4, 5, 6, 3, 7] (by decide +kernel) (by decide +kernel)
set_option maxRecDepth 20000 in
theorem gX4_decides_X4_isFrame : GoodIn wsX4_decides (va_wsS RX4 52 yX4_isFrame wsX4_isFrame) := goodIn_app (goodIn_of _ (by decide +kernel)) ggX4_decides_X4_isFrame
set_option maxRecDepth 20000 in
theorem ggX4_decides_X4_isOpen : GoodIn wsX4_decides wsX4_isOpen := goodIn_r _ [11, 12, 13, 14, 3, 15, 42, 43, 44, 45, 46, 47, 48] (by decide +kernel) (by decide +kernel)
set_option maxRecDepth 20000 in
theorem gX4_decides_X4_isOpen : GoodIn wsX4_decides (wsV RX4 55 RX4 yX4_isOpen wsX4_isOpen) := goodIn_app (goodIn_of _ (by decide +kernel)) ggX4_decides_X4_isOpen
set_option maxRecDepth 20000 in
theorem ggX4_decides_X4_matters : GoodIn wsX4_decides wsX4_matters := goodIn_r _ [19, 20, 21, 22, 3, 23, 12, 13, 14, 15, 24, 25, 26, 27, 28, 29, 30, 31, 32, 33, 34, 8, 9, 10, 11, 35, 36, 37, 38, 39, 40, 41, 42, 43, 44, 45, 46, 47, 48] (by decide +kernel) (by decide +kernel)
set_option maxRecDepth 20000 in
theorem gX4_decides_X4_matters : GoodIn wsX4_decides (wsV RX4 132 RX4 yX4_matters wsX4_matters) := goodIn_app (goodIn_of _ (by decide +kernel)) ggX4_decides_X4_matters
set_option maxRecDepth 20000 in
theorem ggX4_agree_X4_isEditor : GoodIn wsX4_agree wsX4_isEditor := goodIn_r _ [4, 5, 6, 3, 7] (by decide +kernel) (by decide +kernel)
set_option maxRecDepth 20000 in
theorem gX4_agree_X4_isEditor : GoodIn wsX4_agree (va_wsS RX4 48 yX4_isEditor wsX4_isEditor) := goodIn_app (goodIn_of _ (by decide +kernel)) ggX4_agree_X4_isEditor
set_option maxRecDepth 20000 in
theorem ggX4_agree_X4_isOpen : GoodIn wsX4_agree wsX4_isOpen := goodIn_r _ [11, 12, 13, 14, 3, 15, 23, 24, 25, 26, 27, 28, 29] (by decide +kernel) (by decide +kernel)
set_option maxRecDepth 20000 in
theorem gX4_agree_X4_isOpen : GoodIn wsX4_agree (wsV RX4 55 RX4 yX4_isOpen wsX4_isOpen) := goodIn_app (goodIn_of _ (by decide +kernel)) ggX4_agree_X4_isOpen
set_option maxRecDepth 20000 in
theorem ggX4_agree_X4_markOf : GoodIn wsX4_agree wsX4_markOf := goodIn_r _ [19, 12, 13, 14, 3, 15, 20, 21, 22, 23, 24, 25, 26, 27, 28, 29] (by decide +kernel) (by decide +kernel)
set_option maxRecDepth 20000 in
theorem gX4_agree_X4_markOf : GoodIn wsX4_agree (wsV RX4 45 RX4 yX4_markOf wsX4_markOf) := goodIn_app (goodIn_of _ (by decide +kernel)) ggX4_agree_X4_markOf
set_option maxRecDepth 20000 in
theorem ggX4_paperFor_X4_at : GoodIn wsX4_paperFor wsX4_at := goodIn_r _ [5] (by decide +kernel) (by decide +kernel)
set_option maxRecDepth 20000 in
theorem gX4_paperFor_X4_at : GoodIn wsX4_paperFor (va_wsS RX4 26 yX4_at wsX4_at) := goodIn_app (goodIn_of _ (by decide +kernel)) ggX4_paperFor_X4_at
set_option maxRecDepth 20000 in
theorem ggX4_paperFor_X4_paperOf : GoodIn wsX4_paperFor wsX4_paperOf := goodIn_r _ [8] (by decide +kernel) (by decide +kernel)
set_option maxRecDepth 20000 in
theorem gX4_paperFor_X4_paperOf : GoodIn wsX4_paperFor (va_wsS RX4 95 yX4_paperOf wsX4_paperOf) := goodIn_app (goodIn_of _ (by decide +kernel)) ggX4_paperFor_X4_paperOf
set_option maxRecDepth 20000 in
theorem ggX4_put_X4_in : GoodIn wsX4_put wsX4_in := goodIn_r _ [7] (by decide +kernel) (by decide +kernel)
set_option maxRecDepth 20000 in
theorem gX4_put_X4_in : GoodIn wsX4_put (va_wsS RX4 33 yX4_in wsX4_in) := goodIn_app (goodIn_of _ (by decide +kernel)) ggX4_put_X4_in
set_option maxRecDepth 20000 in
theorem ggX4_digit_X4_sign : GoodIn wsX4_digit wsX4_sign := goodIn_r _ [5, 6, 7, 11, 12, 13, 14, 15, 16, 17] (by decide +kernel) (by decide +kernel)
set_option maxRecDepth 20000 in
theorem gX4_digit_X4_sign : GoodIn wsX4_digit (wsV RX4 137 RX4 yX4_sign wsX4_sign) := goodIn_app (goodIn_of _ (by decide +kernel)) ggX4_digit_X4_sign
set_option maxRecDepth 20000 in
theorem ggX4_digit_X4_in : GoodIn wsX4_digit wsX4_in := goodIn_r _ [10] (by decide +kernel) (by decide +kernel)
set_option maxRecDepth 20000 in
theorem gX4_digit_X4_in : GoodIn wsX4_digit (va_wsS RX4 33 yX4_in wsX4_in) := goodIn_app (goodIn_of _ (by decide +kernel)) ggX4_digit_X4_in
set_option maxRecDepth 20000 in
theorem ggX4_numberEnd_X4_digit : GoodIn wsX4_numberEnd wsX4_digit := goodIn_r _ [5, 6, 7, 8, 4, 9, 10, 11, 12, 13, 14, 15, 16, 17, 18, 19, 20, 21] (by decide +kernel) (by decide +kernel)
set_option maxRecDepth 20000 in
theorem gX4_numberEnd_X4_digit : GoodIn wsX4_numberEnd (wsV RX4 140 RX4 yX4_digit wsX4_digit) := goodIn_app (goodIn_of _ (by decide +kernel)) ggX4_numberEnd_X4_digit
set_option maxRecDepth 20000 in
theorem ggX4_numberAt_X4_numberEnd : GoodIn wsX4_numberAt wsX4_numberEnd := goodIn_r _ [5, 6, 7, 8, 4, 9, 10, 11, 12, 13, 14, 15, 16, 17, 18, 19, 20, 21, 22, 23, 24, 25] (by decide +kernel) (by decide +kernel)
set_option maxRecDepth 20000 in
theorem gX4_numberAt_X4_numberEnd : GoodIn wsX4_numberAt (wsV RX4 143 RX4 yX4_numberEnd wsX4_numberEnd) := goodIn_app (goodIn_of _ (by decide +kernel)) ggX4_numberAt_X4_numberEnd
set_option maxRecDepth 20000 in
theorem ggX4_numberAt_X4_digit : GoodIn wsX4_numberAt wsX4_digit := goodIn_r _ [9, 10, 11, 12, 4, 13, 14, 15, 16, 17, 18, 19, 20, 21, 22, 23, 24, 25] (by decide +kernel) (by decide +kernel)
set_option maxRecDepth 20000 in
theorem gX4_numberAt_X4_digit : GoodIn wsX4_numberAt (wsV RX4 140 RX4 yX4_digit wsX4_digit) := goodIn_app (goodIn_of _ (by decide +kernel)) ggX4_numberAt_X4_digit
set_option maxRecDepth 20000 in
theorem ggX4_digitEnd_X4_digit : GoodIn wsX4_digitEnd wsX4_digit := goodIn_r _ [5, 6, 7, 8, 4, 9, 10, 11, 12, 13, 14, 15, 16, 17, 18, 19, 20, 21] (by decide +kernel) (by decide +kernel)
set_option maxRecDepth 20000 in
theorem gX4_digitEnd_X4_digit : GoodIn wsX4_digitEnd (wsV RX4 140 RX4 yX4_digit wsX4_digit) := goodIn_app (goodIn_of _ (by decide +kernel)) ggX4_digitEnd_X4_digit
set_option maxRecDepth 20000 in
theorem ggX4_behind_X4_sign : GoodIn wsX4_behind wsX4_sign := goodIn_r _ [5, 6, 7, 8, 9, 10, 11, 12, 13, 14] (by decide +kernel) (by decide +kernel)
set_option maxRecDepth 20000 in
theorem gX4_behind_X4_sign : GoodIn wsX4_behind (wsV RX4 137 RX4 yX4_sign wsX4_sign) := goodIn_app (goodIn_of _ (by decide +kernel)) ggX4_behind_X4_sign
