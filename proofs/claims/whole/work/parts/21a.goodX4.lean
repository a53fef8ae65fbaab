set_option maxRecDepth 20000 in
theorem ggX4_init_X4_at : GoodIn wsX4_init wsX4_at := goodIn_r _ [14] (by decide +kernel) (by decide +kernel)
set_option maxRecDepth 20000 in
theorem gX4_init_X4_at : GoodIn wsX4_init (va_wsS RX4 26 yX4_at wsX4_at) := goodIn_app (goodIn_of _ (by decide +kernel)) ggX4_init_X4_at
set_option maxRecDepth 20000 in
theorem ggX4_init_X4_of3 : GoodIn wsX4_init wsX4_of3 := goodIn_r _ [17] (by decide +kernel) (by decide +kernel)
set_option maxRecDepth 20000 in
theorem gX4_init_X4_of3 : GoodIn wsX4_init (va_wsS RX4 30 yX4_of3 wsX4_of3) := goodIn_app (goodIn_of _ (by decide +kernel)) ggX4_init_X4_of3
set_option maxRecDepth 20000 in
theorem ggX4_isFrame_X4_in : GoodIn wsX4_isFrame wsX4_in := goodIn_r _ [4] (by decide +kernel) (by decide +kernel)
set_option maxRecDepth 20000 in
theorem gX4_isFrame_X4_in : GoodIn wsX4_isFrame (va_wsS RX4 33 yX4_in wsX4_in) := goodIn_app (goodIn_of _ (by decide +kernel)) ggX4_isFrame_X4_in
set_option maxRecDepth 20000 in
theorem ggX4_isEditor_X4_in : GoodIn wsX4_isEditor wsX4_in := goodIn_r _ [4] (by decide +kernel) (by decide +kernel)
set_option maxRecDepth 20000 in
theorem gX4_isEditor_X4_in : GoodIn wsX4_isEditor (va_wsS RX4 33 yX4_in wsX4_in) := goodIn_app (goodIn_of _ (by decide +kernel)) ggX4_isEditor_X4_in
set_option maxRecDepth 20000 in
theorem ggX4_markOf_X4_at : GoodIn wsX4_markOf wsX4_at := goodIn_r _ [5] (by decide +kernel) (by decide +kernel)
set_option maxRecDepth 20000 in
theorem gX4_markOf_X4_at : GoodIn wsX4_markOf (va_wsS RX4 26 yX4_at wsX4_at) := goodIn_app (goodIn_of _ (by decide +kernel)) ggX4_markOf_X4_at
set_option maxRecDepth 20000 in
theorem ggX4_markOf_X4_power : GoodIn wsX4_markOf wsX4_power := goodIn_r _ [8] (by decide +kernel) (by decide +kernel)
set_option maxRecDepth 20000 in
theorem gX4_markOf_X4_power : GoodIn wsX4_markOf (va_wsS RX4 41 yX4_power wsX4_power) := goodIn_app (goodIn_of _ (by decide +kernel)) ggX4_markOf_X4_power
set_option maxRecDepth 20000 in
theorem ggX4_marks_X4_at : GoodIn wsX4_marks wsX4_at := goodIn_r _ [5] (by decide +kernel) (by decide +kernel)
set_option maxRecDepth 20000 in
theorem gX4_marks_X4_at : GoodIn wsX4_marks (va_wsS RX4 26 yX4_at wsX4_at) := goodIn_app (goodIn_of _ (by decide +kernel)) ggX4_marks_X4_at
set_option maxRecDepth 20000 in
theorem ggX4_marks_X4_power : GoodIn wsX4_marks wsX4_power := goodIn_r _ [8] (by decide +kernel) (by decide +kernel)
set_option maxRecDepth 20000 in
theorem gX4_marks_X4_power : GoodIn wsX4_marks (va_wsS RX4 41 yX4_power wsX4_power) := goodIn_app (goodIn_of _ (by decide +kernel)) ggX4_marks_X4_power
set_option maxRecDepth 20000 in
theorem ggX4_marks_X4_markOf : GoodIn wsX4_marks wsX4_markOf := goodIn_r _ [12, 1, 2, 3, 4, 5, 6, 7, 8, 13, 14, 15, 16, 17, 18, 19] (by decide +kernel) (by decide +kernel)
set_option maxRecDepth 20000 in
theorem gX4_marks_X4_markOf : GoodIn wsX4_marks (wsV RX4 45 RX4 yX4_markOf wsX4_markOf) := goodIn_app (goodIn_of _ (by decide +kernel)) ggX4_marks_X4_markOf
set_option maxRecDepth 20000 in
theorem ggX4_withMark_X4_markOf : GoodIn wsX4_withMark wsX4_markOf := goodIn_r _ [5, 6, 7, 8, 4, 9, 10, 11, 12, 13, 14, 15, 16, 17, 18, 19] (by decide +kernel) (by decide +kernel)
set_option maxRecDepth 20000 in
theorem gX4_withMark_X4_markOf : GoodIn wsX4_withMark (wsV RX4 45 RX4 yX4_markOf wsX4_markOf) := goodIn_app (goodIn_of _ (by decide +kernel)) ggX4_withMark_X4_markOf
set_option maxRecDepth 20000 in
theorem ggX4_marked_X4_markOf : GoodIn wsX4_marked wsX4_markOf := goodIn_r _ [5, 6, 7, 8, 4, 9, 10, 11, 12, 13, 14, 15, 16, 17, 18, 19] (by decide +kernel) (by decide +kernel)
set_option maxRecDepth 20000 in
theorem gX4_marked_X4_markOf : GoodIn wsX4_marked (wsV RX4 45 RX4 yX4_markOf wsX4_markOf) := goodIn_app (goodIn_of _ (by decide +kernel)) ggX4_marked_X4_markOf
set_option maxRecDepth 20000 in
theorem ggX4_isOpen_X4_at : GoodIn wsX4_isOpen wsX4_at := goodIn_r _ [5] (by decide +kernel) (by decide +kernel)
set_option maxRecDepth 20000 in
theorem gX4_isOpen_X4_at : GoodIn wsX4_isOpen (va_wsS RX4 26 yX4_at wsX4_at) := goodIn_app (goodIn_of _ (by decide +kernel)) ggX4_isOpen_X4_at
set_option maxRecDepth 20000 in
theorem ggX4_whyNotMark_X4_isEditor : GoodIn wsX4_whyNotMark wsX4_isEditor := goodIn_r _ [5, 6, 7, 4, 8] (by decide +kernel) (by decide +kernel)
set_option maxRecDepth 20000 in
theorem gX4_whyNotMark_X4_isEditor : GoodIn wsX4_whyNotMark (va_wsS RX4 48 yX4_isEditor wsX4_isEditor) := goodIn_app (goodIn_of _ (by decide +kernel)) ggX4_whyNotMark_X4_isEditor
set_option maxRecDepth 20000 in
theorem ggX4_whyNotMark_X4_isFrame : GoodIn wsX4_whyNotMark wsX4_isFrame := goodIn_r _ [11, 6, 7, 4, 8] (by decide +kernel) (by decide +kernel)
set_option maxRecDepth 20000 in
theorem gX4_whyNotMark_X4_isFrame : GoodIn wsX4_whyNotMark (va_wsS RX4 52 yX4_isFrame wsX4_isFrame) := goodIn_app (goodIn_of _ (by decide +kernel)) ggX4_whyNotMark_X4_isFrame
set_option maxRecDepth 20000 in
theorem ggX4_whyNotMark_X4_in : GoodIn wsX4_whyNotMark wsX4_in := goodIn_r _ [8] (by decide +kernel) (by decide +kernel)
set_option maxRecDepth 20000 in
theorem gX4_whyNotMark_X4_in : GoodIn wsX4_whyNotMark (va_wsS RX4 33 yX4_in wsX4_in) := goodIn_app (goodIn_of _ (by decide +kernel)) ggX4_whyNotMark_X4_in
set_option maxRecDepth 20000 in
theorem ggX4_whyNotMark_X4_isOpen : GoodIn wsX4_whyNotMark wsX4_isOpen := goodIn_r _ [15, 1, 16, 17, 4, 18, 30, 31, 32, 33, 34, 35, 36] (by decide +kernel) (by decide +kernel)
set_option maxRecDepth 20000 in
theorem gX4_whyNotMark_X4_isOpen : GoodIn wsX4_whyNotMark (wsV RX4 55 RX4 yX4_isOpen wsX4_isOpen) := goodIn_app (goodIn_of _ (by decide +kernel)) ggX4_whyNotMark_X4_isOpen
set_option maxRecDepth 20000 in
theorem ggX4_whyNotMark_X4_markOf : GoodIn wsX4_whyNotMark wsX4_markOf := goodIn_r _ [22, 1, 16, 17, 4, 18, 23, 24, 25, 30, 31, 32, 33, 34, 35, 36] (by decide +kernel) (by decide +kernel)
set_option maxRecDepth 20000 in
theorem gX4_whyNotMark_X4_markOf : GoodIn wsX4_whyNotMark (wsV RX4 45 RX4 yX4_markOf wsX4_markOf) := goodIn_app (goodIn_of _ (by decide +kernel)) ggX4_whyNotMark_X4_markOf
set_option maxRecDepth 20000 in
theorem ggX4_whyNotMark_X4_marked : GoodIn wsX4_whyNotMark wsX4_marked := goodIn_r _ [29, 19, 20, 21, 4, 22, 1, 16, 17, 18, 23, 24, 25, 30, 31, 32, 33, 34, 35, 36] (by decide +kernel) (by decide +kernel)
set_option maxRecDepth 20000 in
theorem gX4_whyNotMark_X4_marked : GoodIn wsX4_whyNotMark (wsV RX4 58 RX4 yX4_marked wsX4_marked) := goodIn_app (goodIn_of _ (by decide +kernel)) ggX4_whyNotMark_X4_marked
set_option maxRecDepth 20000 in
theorem ggX4_mark_X4_whyNotMark : GoodIn wsX4_mark wsX4_whyNotMark := goodIn_r _ [5, 6, 7, 8, 4, 9, 10, 11, 12, 13, 14, 15, 16, 17, 18, 19, 20, 21, 22, 23, 24, 25, 26, 27, 28, 29, 30, 31, 32, 33, 44, 45, 46, 47, 48, 49, 50] (by decide +kernel) (by decide +kernel)
set_option maxRecDepth 20000 in
theorem gX4_mark_X4_whyNotMark : GoodIn wsX4_mark (wsV RX4 61 RX4 yX4_whyNotMark wsX4_whyNotMark) := goodIn_app (goodIn_of _ (by decide +kernel)) ggX4_mark_X4_whyNotMark
set_option maxRecDepth 20000 in
theorem ggX4_mark_X4_remembers : GoodIn wsX4_mark wsX4_remembers := goodIn_r _ [37, 38, 39, 6, 44, 45, 46, 47, 48, 49, 50] (by decide +kernel) (by decide +kernel)
set_option maxRecDepth 20000 in
theorem gX4_mark_X4_remembers : GoodIn wsX4_mark (wsV RX4 65 RX4 yX4_remembers wsX4_remembers) := goodIn_app (goodIn_of _ (by decide +kernel)) ggX4_mark_X4_remembers
set_option maxRecDepth 20000 in
theorem ggX4_mark_X4_markOf : GoodIn wsX4_mark wsX4_markOf := goodIn_r _ [26, 6, 20, 21, 4, 22, 27, 28, 29, 44, 45, 46, 47, 48, 49, 50] (by decide +kernel) (by decide +kernel)
set_option maxRecDepth 20000 in
theorem gX4_mark_X4_markOf : GoodIn wsX4_mark (wsV RX4 45 RX4 yX4_markOf wsX4_markOf) := goodIn_app (goodIn_of _ (by decide +kernel)) ggX4_mark_X4_markOf
set_option maxRecDepth 20000 in
theorem ggX4_mark_X4_marks : GoodIn wsX4_mark wsX4_marks := goodIn_r _ [43, 6, 20, 21, 4, 22, 27, 28, 29, 23, 24, 25, 26, 44, 45, 46, 47, 48, 49, 50] (by decide +kernel) (by decide +kernel)
set_option maxRecDepth 20000 in
theorem gX4_mark_X4_marks : GoodIn wsX4_mark (wsV RX4 68 RX4 yX4_marks wsX4_marks) := goodIn_app (goodIn_of _ (by decide +kernel)) ggX4_mark_X4_marks
set_option maxRecDepth 20000 in
theorem ggX4_whyNotArgue_X4_isEditor : GoodIn wsX4_whyNotArgue wsX4_isEditor := goodIn_r _ [5, 6, 7, 4, 8] (by decide +kernel) (by decide +kernel)
set_option maxRecDepth 20000 in
theorem gX4_whyNotArgue_X4_isEditor : GoodIn wsX4_whyNotArgue (va_wsS RX4 48 yX4_isEditor wsX4_isEditor) := goodIn_app (goodIn_of _ (by decide +kernel)) ggX4_whyNotArgue_X4_isEditor
set_option maxRecDepth 20000 in
theorem ggX4_whyNotArgue_X4_isFrame : GoodIn wsX4_whyNotArgue wsX4_isFrame := goodIn_r _ [11, 6, 7, 4, 8] (by decide +kernel) (by decide +kernel)
set_option maxRecDepth 20000 in
theorem gX4_whyNotArgue_X4_isFrame : GoodIn wsX4_whyNotArgue (va_wsS RX4 52 yX4_isFrame wsX4_isFrame) := goodIn_app (goodIn_of _ (by decide +kernel)) ggX4_whyNotArgue_X4_isFrame
set_option maxRecDepth 20000 in
theorem ggX4_whyNotArgue_X4_markOf : GoodIn wsX4_whyNotArgue wsX4_markOf := goodIn_r _ [15, 1, 16, 17, 4, 18, 19, 20, 21, 25, 26, 27, 28, 29, 30, 31] (by decide +kernel) (by decide +kernel)
set_option maxRecDepth 20000 in
theorem gX4_whyNotArgue_X4_markOf : GoodIn wsX4_whyNotArgue (wsV RX4 45 RX4 yX4_markOf wsX4_markOf) := goodIn_app (goodIn_of _ (by decide +kernel)) ggX4_whyNotArgue_X4_markOf
set_option maxRecDepth 20000 in
theorem ggX4_whyNotArgue_X4_of3 : GoodIn wsX4_whyNotArgue wsX4_of3 := goodIn_r _ [24] (by decide +kernel) (by decide +kernel)
set_option maxRecDepth 20000 in
theorem gX4_whyNotArgue_X4_of3 : GoodIn wsX4_whyNotArgue (va_wsS RX4 30 yX4_of3 wsX4_of3) := goodIn_app (goodIn_of _ (by decide +kernel)) ggX4_whyNotArgue_X4_of3
set_option maxRecDepth 20000 in
theorem ggX4_argues_X4_of3 : GoodIn wsX4_argues wsX4_of3 := goodIn_r _ [5] (by decide +kernel) (by decide +kernel)
set_option maxRecDepth 20000 in
theorem gX4_argues_X4_of3 : GoodIn wsX4_argues (va_wsS RX4 30 yX4_of3 wsX4_of3) := goodIn_app (goodIn_of _ (by decide +kernel)) ggX4_argues_X4_of3
set_option maxRecDepth 20000 in
theorem ggX4_argues_X4_marks : GoodIn wsX4_argues wsX4_marks := goodIn_r _ [9, 1, 10, 11, 4, 12, 13, 14, 15, 16, 17, 18, 19, 20, 21, 22, 23, 24, 25, 26] (by decide +kernel) (by decide +kernel)
set_option maxRecDepth 20000 in
theorem gX4_argues_X4_marks : GoodIn wsX4_argues (wsV RX4 68 RX4 yX4_marks wsX4_marks) := goodIn_app (goodIn_of _ (by decide +kernel)) ggX4_argues_X4_marks
set_option maxRecDepth 20000 in
theorem ggX4_argue_X4_whyNotArgue : GoodIn wsX4_argue wsX4_whyNotArgue := goodIn_r _ [5, 6, 7, 8, 4, 9, 10, 11, 12, 13, 14, 15, 16, 17, 18, 19, 20, 21, 22, 23, 24, 25, 26, 27, 28, 43, 44, 45, 46, 47, 48, 49] (by decide +kernel) (by decide +kernel)
set_option maxRecDepth 20000 in
theorem gX4_argue_X4_whyNotArgue : GoodIn wsX4_argue (wsV RX4 72 RX4 yX4_whyNotArgue wsX4_whyNotArgue) := goodIn_app (goodIn_of _ (by decide +kernel)) ggX4_argue_X4_whyNotArgue
set_option maxRecDepth 20000 in
theorem ggX4_argue_X4_remembers : GoodIn wsX4_argue wsX4_remembers := goodIn_r _ [32, 33, 34, 6, 43, 44, 45, 46, 47, 48, 49] (by decide +kernel) (by decide +kernel)
set_option maxRecDepth 20000 in
theorem gX4_argue_X4_remembers : GoodIn wsX4_argue (wsV RX4 65 RX4 yX4_remembers wsX4_remembers) := goodIn_app (goodIn_of _ (by decide +kernel)) ggX4_argue_X4_remembers
set_option maxRecDepth 20000 in
theorem ggX4_argue_X4_argues : GoodIn wsX4_argue wsX4_argues := goodIn_r _ [38, 6, 26, 27, 4, 28, 39, 40, 41, 42, 20, 21, 22, 23, 24, 25, 16, 17, 18, 19, 43, 44, 45, 46, 47, 48, 49] (by decide +kernel) (by decide +kernel)
set_option maxRecDepth 20000 in
theorem gX4_argue_X4_argues : GoodIn wsX4_argue (wsV RX4 75 RX4 yX4_argues wsX4_argues) := goodIn_app (goodIn_of _ (by decide +kernel)) ggX4_argue_X4_argues
set_option maxRecDepth 20000 in
theorem ggX4_then_X4_withMark : GoodIn wsX4_then wsX4_withMark := goodIn_r _ [6, 7, 8, 9, 5, 10, 1, 11, 12, 13, 14, 15, 16, 20, 21, 22, 23, 24, 25, 26] (by decide +kernel) (by decide +kernel)
set_option maxRecDepth 20000 in
theorem gX4_then_X4_withMark : GoodIn wsX4_then (wsV RX4 78 RX4 yX4_withMark wsX4_withMark) := goodIn_app (goodIn_of _ (by decide +kernel)) ggX4_then_X4_withMark
set_option maxRecDepth 20000 in
theorem ggX4_then_X4_ones : GoodIn wsX4_then wsX4_ones := goodIn_r _ [19] (by decide +kernel) (by decide +kernel)
set_option maxRecDepth 20000 in
theorem gX4_then_X4_ones : GoodIn wsX4_then (va_wsS RX4 81 yX4_ones wsX4_ones) := goodIn_app (goodIn_of _ (by decide +kernel)) ggX4_then_X4_ones
set_option maxRecDepth 20000 in
theorem ggX4_then_X4_at : GoodIn wsX4_then wsX4_at := goodIn_r _ [13] (by decide +kernel) (by decide +kernel)
set_option maxRecDepth 20000 in
theorem gX4_then_X4_at : GoodIn wsX4_then (va_wsS RX4 26 yX4_at wsX4_at) := goodIn_app (goodIn_of _ (by decide +kernel)) ggX4_then_X4_at
set_option maxRecDepth 20000 in
theorem ggX4_judges_X4_then : GoodIn wsX4_judges wsX4_then := goodIn_r _ [6, 1, 7, 8, 9, 5, 10, 11, 12, 13, 14, 15, 16, 17, 18, 19, 20, 21, 22, 23, 27, 28, 29, 30, 31, 32, 33] (by decide +kernel) (by decide +kernel)
set_option maxRecDepth 20000 in
theorem gX4_judges_X4_then : GoodIn wsX4_judges (wsV RX4 84 RX4 yX4_then wsX4_then) := goodIn_app (goodIn_of _ (by decide +kernel)) ggX4_judges_X4_then
set_option maxRecDepth 20000 in
theorem ggX4_judges_X4_withMark : GoodIn wsX4_judges wsX4_withMark := goodIn_r _ [10, 11, 12, 13, 5, 14, 1, 15, 16, 17, 18, 19, 20, 27, 28, 29, 30, 31, 32, 33] (by decide +kernel) (by decide +kernel)
set_option maxRecDepth 20000 in
theorem gX4_judges_X4_withMark : GoodIn wsX4_judges (wsV RX4 78 RX4 yX4_withMark wsX4_withMark) := goodIn_app (goodIn_of _ (by decide +kernel)) ggX4_judges_X4_withMark
