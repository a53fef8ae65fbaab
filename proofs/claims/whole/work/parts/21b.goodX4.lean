set_option maxRecDepth 20000 in
theorem ggX4_judges_X4_at : GoodIn wsX4_judges wsX4_at := goodIn_r _ [17] (by decide +kernel) (by decide +kernel)
set_option maxRecDepth 20000 in
theorem gX4_judges_X4_at : GoodIn wsX4_judges (va_wsS RX4 26 yX4_at wsX4_at) := goodIn_app (goodIn_of _ (by decide +kernel)) ggX4_judges_X4_at
set_option maxRecDepth 20000 in
theorem ggX4_judges_X4_ones : GoodIn wsX4_judges wsX4_ones := goodIn_r _ [23] (by decide +kernel) (by decide +kernel)
set_option maxRecDepth 20000 in
theorem gX4_judges_X4_ones : GoodIn wsX4_judges (va_wsS RX4 81 yX4_ones wsX4_ones) := goodIn_app (goodIn_of _ (by decide +kernel)) ggX4_judges_X4_ones
set_option maxRecDepth 20000 in
theorem ggX4_judges_X4_of3 : GoodIn wsX4_judges wsX4_of3 := goodIn_r _ [26] (by decide +kernel) (by decide +kernel)
set_option maxRecDepth 20000 in
theorem gX4_judges_X4_of3 : GoodIn wsX4_judges (va_wsS RX4 30 yX4_of3 wsX4_of3) := goodIn_app (goodIn_of _ (by decide +kernel)) ggX4_judges_X4_of3
set_option maxRecDepth 20000 in
theorem ggX4_rounds_X4_isOpen : GoodIn wsX4_rounds wsX4_isOpen := goodIn_r _ [6, 1, 7, 8, 5, 9, 35, 36, 37, 38, 39, 40, 41] (by decide +kernel) (by decide +kernel)
set_option maxRecDepth 20000 in
theorem gX4_rounds_X4_isOpen : GoodIn wsX4_rounds (wsV RX4 55 RX4 yX4_isOpen wsX4_isOpen) := goodIn_app (goodIn_of _ (by decide +kernel)) ggX4_rounds_X4_isOpen
set_option maxRecDepth 20000 in
theorem ggX4_rounds_X4_judges : GoodIn wsX4_rounds wsX4_judges := goodIn_r _ [13, 1, 14, 15, 16, 5, 17, 18, 19, 20, 21, 22, 23, 24, 25, 7, 8, 9, 26, 27, 28, 29, 30, 31, 32, 33, 34, 35, 36, 37, 38, 39, 40, 41] (by decide +kernel) (by decide +kernel)
set_option maxRecDepth 20000 in
theorem gX4_rounds_X4_judges : GoodIn wsX4_rounds (wsV RX4 87 RX4 yX4_judges wsX4_judges) := goodIn_app (goodIn_of _ (by decide +kernel)) ggX4_rounds_X4_judges
set_option maxRecDepth 20000 in
theorem ggX4_rounds_X4_at : GoodIn wsX4_rounds wsX4_at := goodIn_r _ [9] (by decide +kernel) (by decide +kernel)
set_option maxRecDepth 20000 in
theorem gX4_rounds_X4_at : GoodIn wsX4_rounds (va_wsS RX4 26 yX4_at wsX4_at) := goodIn_app (goodIn_of _ (by decide +kernel)) ggX4_rounds_X4_at
set_option maxRecDepth 20000 in
theorem ggX4_rounds_X4_of3 : GoodIn wsX4_rounds wsX4_of3 := goodIn_r _ [34] (by decide +kernel) (by decide +kernel)
set_option maxRecDepth 20000 in
theorem gX4_rounds_X4_of3 : GoodIn wsX4_rounds (va_wsS RX4 30 yX4_of3 wsX4_of3) := goodIn_app (goodIn_of _ (by decide +kernel)) ggX4_rounds_X4_of3
set_option maxRecDepth 20000 in
theorem ggX4_round_X4_remembers : GoodIn wsX4_round wsX4_remembers := goodIn_r _ [6, 7, 8, 1, 45, 46, 47, 48, 49, 50, 51] (by decide +kernel) (by decide +kernel)
set_option maxRecDepth 20000 in
theorem gX4_round_X4_remembers : GoodIn wsX4_round (wsV RX4 65 RX4 yX4_remembers wsX4_remembers) := goodIn_app (goodIn_of _ (by decide +kernel)) ggX4_round_X4_remembers
set_option maxRecDepth 20000 in
theorem ggX4_round_X4_rounds : GoodIn wsX4_round wsX4_rounds := goodIn_r _ [12, 1, 13, 14, 15, 5, 16, 17, 18, 19, 20, 21, 22, 23, 24, 25, 26, 27, 28, 29, 30, 31, 32, 33, 34, 35, 36, 37, 38, 39, 40, 41, 42, 43, 44, 45, 46, 47, 48, 49, 50, 51] (by decide +kernel) (by decide +kernel)
set_option maxRecDepth 20000 in
theorem gX4_round_X4_rounds : GoodIn wsX4_round (wsV RX4 91 RX4 yX4_rounds wsX4_rounds) := goodIn_app (goodIn_of _ (by decide +kernel)) ggX4_round_X4_rounds
set_option maxRecDepth 20000 in
theorem ggX4_whyNotPrint_X4_isFrame : GoodIn wsX4_whyNotPrint wsX4_isFrame := goodIn_r _ [5, 6, 7, 4, 8] (by decide +kernel) (by decide +kernel)
set_option maxRecDepth 20000 in
theorem gX4_whyNotPrint_X4_isFrame : GoodIn wsX4_whyNotPrint (va_wsS RX4 52 yX4_isFrame wsX4_isFrame) := goodIn_app (goodIn_of _ (by decide +kernel)) ggX4_whyNotPrint_X4_isFrame
set_option maxRecDepth 20000 in
theorem ggX4_whyNotPrint_X4_in : GoodIn wsX4_whyNotPrint wsX4_in := goodIn_r _ [8] (by decide +kernel) (by decide +kernel)
set_option maxRecDepth 20000 in
theorem gX4_whyNotPrint_X4_in : GoodIn wsX4_whyNotPrint (va_wsS RX4 33 yX4_in wsX4_in) := goodIn_app (goodIn_of _ (by decide +kernel)) ggX4_whyNotPrint_X4_in
set_option maxRecDepth 20000 in
theorem ggX4_whyNotPrint_X4_at : GoodIn wsX4_whyNotPrint wsX4_at := goodIn_r _ [11] (by decide +kernel) (by decide +kernel)
set_option maxRecDepth 20000 in
theorem gX4_whyNotPrint_X4_at : GoodIn wsX4_whyNotPrint (va_wsS RX4 26 yX4_at wsX4_at) := goodIn_app (goodIn_of _ (by decide +kernel)) ggX4_whyNotPrint_X4_at
set_option maxRecDepth 20000 in
theorem ggX4_whyNotPrint_X4_paperOf : GoodIn wsX4_whyNotPrint wsX4_paperOf := goodIn_r _ [14] (by decide +kernel) (by decide +kernel)
set_option maxRecDepth 20000 in
theorem gX4_whyNotPrint_X4_paperOf : GoodIn wsX4_whyNotPrint (va_wsS RX4 95 yX4_paperOf wsX4_paperOf) := goodIn_app (goodIn_of _ (by decide +kernel)) ggX4_whyNotPrint_X4_paperOf
set_option maxRecDepth 20000 in
theorem ggX4_prints_X4_at : GoodIn wsX4_prints wsX4_at := goodIn_r _ [5] (by decide +kernel) (by decide +kernel)
set_option maxRecDepth 20000 in
theorem gX4_prints_X4_at : GoodIn wsX4_prints (va_wsS RX4 26 yX4_at wsX4_at) := goodIn_app (goodIn_of _ (by decide +kernel)) ggX4_prints_X4_at
set_option maxRecDepth 20000 in
theorem ggX4_prints_X4_paperOf : GoodIn wsX4_prints wsX4_paperOf := goodIn_r _ [8] (by decide +kernel) (by decide +kernel)
set_option maxRecDepth 20000 in
theorem gX4_prints_X4_paperOf : GoodIn wsX4_prints (va_wsS RX4 95 yX4_paperOf wsX4_paperOf) := goodIn_app (goodIn_of _ (by decide +kernel)) ggX4_prints_X4_paperOf
set_option maxRecDepth 20000 in
theorem ggX4_print_X4_whyNotPrint : GoodIn wsX4_print wsX4_whyNotPrint := goodIn_r _ [5, 6, 7, 8, 4, 9, 10, 11, 12, 13, 14, 15, 16, 17, 18, 29, 30, 31, 32, 33, 34, 35] (by decide +kernel) (by decide +kernel)
set_option maxRecDepth 20000 in
theorem gX4_print_X4_whyNotPrint : GoodIn wsX4_print (wsV RX4 98 RX4 yX4_whyNotPrint wsX4_whyNotPrint) := goodIn_app (goodIn_of _ (by decide +kernel)) ggX4_print_X4_whyNotPrint
set_option maxRecDepth 20000 in
theorem ggX4_print_X4_remembers : GoodIn wsX4_print wsX4_remembers := goodIn_r _ [22, 23, 24, 6, 29, 30, 31, 32, 33, 34, 35] (by decide +kernel) (by decide +kernel)
set_option maxRecDepth 20000 in
theorem gX4_print_X4_remembers : GoodIn wsX4_print (wsV RX4 65 RX4 yX4_remembers wsX4_remembers) := goodIn_app (goodIn_of _ (by decide +kernel)) ggX4_print_X4_remembers
set_option maxRecDepth 20000 in
theorem ggX4_print_X4_prints : GoodIn wsX4_print wsX4_prints := goodIn_r _ [28, 6, 13, 14, 4, 15, 16, 17, 18, 29, 30, 31, 32, 33, 34, 35] (by decide +kernel) (by decide +kernel)
set_option maxRecDepth 20000 in
theorem gX4_print_X4_prints : GoodIn wsX4_print (wsV RX4 101 RX4 yX4_prints wsX4_prints) := goodIn_app (goodIn_of _ (by decide +kernel)) ggX4_print_X4_prints
set_option maxRecDepth 20000 in
theorem ggX4_buy_X4_in : GoodIn wsX4_buy wsX4_in := goodIn_r _ [4] (by decide +kernel) (by decide +kernel)
set_option maxRecDepth 20000 in
theorem gX4_buy_X4_in : GoodIn wsX4_buy (va_wsS RX4 33 yX4_in wsX4_in) := goodIn_app (goodIn_of _ (by decide +kernel)) ggX4_buy_X4_in
set_option maxRecDepth 20000 in
theorem ggX4_buy_X4_remembers : GoodIn wsX4_buy wsX4_remembers := goodIn_r _ [8, 9, 10, 11, 16, 17, 18, 19, 20, 21, 22] (by decide +kernel) (by decide +kernel)
set_option maxRecDepth 20000 in
theorem gX4_buy_X4_remembers : GoodIn wsX4_buy (wsV RX4 65 RX4 yX4_remembers wsX4_remembers) := goodIn_app (goodIn_of _ (by decide +kernel)) ggX4_buy_X4_remembers
set_option maxRecDepth 20000 in
theorem ggX4_buy_X4_buys : GoodIn wsX4_buy wsX4_buys := goodIn_r _ [15, 11, 16, 17, 18, 19, 20, 21, 22] (by decide +kernel) (by decide +kernel)
set_option maxRecDepth 20000 in
theorem gX4_buy_X4_buys : GoodIn wsX4_buy (wsV RX4 104 RX4 yX4_buys wsX4_buys) := goodIn_app (goodIn_of _ (by decide +kernel)) ggX4_buy_X4_buys
set_option maxRecDepth 20000 in
theorem ggX4_reopen_X4_isFrame : GoodIn wsX4_reopen wsX4_isFrame := goodIn_r _ [5, 6, 7, 4, 8] (by decide +kernel) (by decide +kernel)
set_option maxRecDepth 20000 in
theorem gX4_reopen_X4_isFrame : GoodIn wsX4_reopen (va_wsS RX4 52 yX4_isFrame wsX4_isFrame) := goodIn_app (goodIn_of _ (by decide +kernel)) ggX4_reopen_X4_isFrame
set_option maxRecDepth 20000 in
theorem ggX4_reopen_X4_at : GoodIn wsX4_reopen wsX4_at := goodIn_r _ [11] (by decide +kernel) (by decide +kernel)
set_option maxRecDepth 20000 in
theorem gX4_reopen_X4_at : GoodIn wsX4_reopen (va_wsS RX4 26 yX4_at wsX4_at) := goodIn_app (goodIn_of _ (by decide +kernel)) ggX4_reopen_X4_at
set_option maxRecDepth 20000 in
theorem ggX4_reopen_X4_remembers : GoodIn wsX4_reopen wsX4_remembers := goodIn_r _ [15, 16, 17, 1, 18, 19, 20, 21, 22, 23, 24] (by decide +kernel) (by decide +kernel)
set_option maxRecDepth 20000 in
theorem gX4_reopen_X4_remembers : GoodIn wsX4_reopen (wsV RX4 65 RX4 yX4_remembers wsX4_remembers) := goodIn_app (goodIn_of _ (by decide +kernel)) ggX4_reopen_X4_remembers
set_option maxRecDepth 20000 in
theorem ggX4_canSet_X4_in : GoodIn wsX4_canSet wsX4_in := goodIn_r _ [4] (by decide +kernel) (by decide +kernel)
set_option maxRecDepth 20000 in
theorem gX4_canSet_X4_in : GoodIn wsX4_canSet (va_wsS RX4 33 yX4_in wsX4_in) := goodIn_app (goodIn_of _ (by decide +kernel)) ggX4_canSet_X4_in
set_option maxRecDepth 20000 in
theorem ggX4_set_X4_canSet : GoodIn wsX4_set wsX4_canSet := goodIn_r _ [5, 6, 7, 4, 8] (by decide +kernel) (by decide +kernel)
set_option maxRecDepth 20000 in
theorem gX4_set_X4_canSet : GoodIn wsX4_set (va_wsS RX4 107 yX4_canSet wsX4_canSet) := goodIn_app (goodIn_of _ (by decide +kernel)) ggX4_set_X4_canSet
set_option maxRecDepth 20000 in
theorem ggX4_set_X4_remembers : GoodIn wsX4_set wsX4_remembers := goodIn_r _ [12, 13, 14, 1, 15, 16, 17, 18, 19, 20, 21] (by decide +kernel) (by decide +kernel)
set_option maxRecDepth 20000 in
theorem gX4_set_X4_remembers : GoodIn wsX4_set (wsV RX4 65 RX4 yX4_remembers wsX4_remembers) := goodIn_app (goodIn_of _ (by decide +kernel)) ggX4_set_X4_remembers
set_option maxRecDepth 20000 in
theorem ggX4_of_X4_isFrame : GoodIn wsX4_of wsX4_isFrame := goodIn_r _ [5, 6, 7, 4, 8] (by decide +kernel) (by decide +kernel)
set_option maxRecDepth 20000 in
theorem gX4_of_X4_isFrame : GoodIn wsX4_of (va_wsS RX4 52 yX4_isFrame wsX4_isFrame) := goodIn_app (goodIn_of _ (by decide +kernel)) ggX4_of_X4_isFrame
set_option maxRecDepth 20000 in
theorem ggX4_of_X4_at : GoodIn wsX4_of wsX4_at := goodIn_r _ [11] (by decide +kernel) (by decide +kernel)
set_option maxRecDepth 20000 in
theorem gX4_of_X4_at : GoodIn wsX4_of (va_wsS RX4 26 yX4_at wsX4_at) := goodIn_app (goodIn_of _ (by decide +kernel)) ggX4_of_X4_at
set_option maxRecDepth 20000 in
theorem ggX4_of_X4_withMark : GoodIn wsX4_of wsX4_withMark := goodIn_r _ [15, 16, 17, 18, 4, 19, 1, 9, 10, 11, 20, 21, 22, 23, 24, 25, 26, 27, 28, 29] (by decide +kernel) (by decide +kernel)
set_option maxRecDepth 20000 in
theorem gX4_of_X4_withMark : GoodIn wsX4_of (wsV RX4 78 RX4 yX4_withMark wsX4_withMark) := goodIn_app (goodIn_of _ (by decide +kernel)) ggX4_of_X4_withMark
set_option maxRecDepth 20000 in
theorem ggX4_vetoesLeft_X4_marked : GoodIn wsX4_vetoesLeft wsX4_marked := goodIn_r _ [6, 7, 8, 9, 5, 10, 1, 11, 12, 13, 14, 15, 16, 17, 18, 19, 20, 21, 22, 23] (by decide +kernel) (by decide +kernel)
set_option maxRecDepth 20000 in
theorem gX4_vetoesLeft_X4_marked : GoodIn wsX4_vetoesLeft (wsV RX4 58 RX4 yX4_marked wsX4_marked) := goodIn_app (goodIn_of _ (by decide +kernel)) ggX4_vetoesLeft_X4_marked
set_option maxRecDepth 20000 in
theorem ggX4_editor_X4_isEditor : GoodIn wsX4_editor wsX4_isEditor := goodIn_r _ [5, 6, 7, 4, 8] (by decide +kernel) (by decide +kernel)
set_option maxRecDepth 20000 in
theorem gX4_editor_X4_isEditor : GoodIn wsX4_editor (va_wsS RX4 48 yX4_isEditor wsX4_isEditor) := goodIn_app (goodIn_of _ (by decide +kernel)) ggX4_editor_X4_isEditor
set_option maxRecDepth 20000 in
theorem ggX4_editor_X4_of3 : GoodIn wsX4_editor wsX4_of3 := goodIn_r _ [11] (by decide +kernel) (by decide +kernel)
set_option maxRecDepth 20000 in
theorem gX4_editor_X4_of3 : GoodIn wsX4_editor (va_wsS RX4 30 yX4_of3 wsX4_of3) := goodIn_app (goodIn_of _ (by decide +kernel)) ggX4_editor_X4_of3
set_option maxRecDepth 20000 in
theorem ggX4_editor_X4_marked : GoodIn wsX4_editor wsX4_marked := goodIn_r _ [15, 16, 17, 18, 4, 19, 1, 20, 21, 22, 23, 24, 25, 30, 31, 32, 33, 34, 35, 36] (by decide +kernel) (by decide +kernel)
set_option maxRecDepth 20000 in
theorem gX4_editor_X4_marked : GoodIn wsX4_editor (wsV RX4 58 RX4 yX4_marked wsX4_marked) := goodIn_app (goodIn_of _ (by decide +kernel)) ggX4_editor_X4_marked
set_option maxRecDepth 20000 in
theorem ggX4_editor_X4_vetoesLeft : GoodIn wsX4_editor wsX4_vetoesLeft := goodIn_r _ [29, 1, 12, 13, 14, 4, 15, 16, 17, 18, 19, 20, 21, 22, 23, 24, 25, 30, 31, 32, 33, 34, 35, 36] (by decide +kernel) (by decide +kernel)
set_option maxRecDepth 20000 in
theorem gX4_editor_X4_vetoesLeft : GoodIn wsX4_editor (wsV RX4 111 RX4 yX4_vetoesLeft wsX4_vetoesLeft) := goodIn_app (goodIn_of _ (by decide +kernel)) ggX4_editor_X4_vetoesLeft
set_option maxRecDepth 20000 in
theorem ggX4_isTaken_X4_at : GoodIn wsX4_isTaken wsX4_at := goodIn_r _ [5] (by decide +kernel) (by decide +kernel)
set_option maxRecDepth 20000 in
theorem gX4_isTaken_X4_at : GoodIn wsX4_isTaken (va_wsS RX4 26 yX4_at wsX4_at) := goodIn_app (goodIn_of _ (by decide +kernel)) ggX4_isTaken_X4_at
