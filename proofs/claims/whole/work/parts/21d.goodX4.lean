set_option maxRecDepth 20000 in
theorem ggX4_orderEnd_X4_sign : GoodIn wsX4_orderEnd wsX4_sign := goodIn_r _ [5, 6, 7, 27, 28, 29, 30, 31, 32, 33] (by decide +kernel) (by decide +kernel)
set_option maxRecDepth 20000 in
theorem gX4_orderEnd_X4_sign : GoodIn wsX4_orderEnd (wsV RX4 137 RX4 yX4_sign wsX4_sign) := goodIn_app (goodIn_of _ (by decide +kernel)) ggX4_orderEnd_X4_sign
set_option maxRecDepth 20000 in
theorem ggX4_orderEnd_X4_digitEnd : GoodIn wsX4_orderEnd wsX4_digitEnd := goodIn_r _ [11, 12, 13, 14, 4, 15, 1, 2, 3, 5, 6, 7, 16, 17, 18, 27, 28, 29, 30, 31, 32, 33] (by decide +kernel) (by decide +kernel)
set_option maxRecDepth 20000 in
theorem gX4_orderEnd_X4_digitEnd : GoodIn wsX4_orderEnd (wsV RX4 146 RX4 yX4_digitEnd wsX4_digitEnd) := goodIn_app (goodIn_of _ (by decide +kernel)) ggX4_orderEnd_X4_digitEnd
set_option maxRecDepth 20000 in
theorem ggX4_orderEnd_X4_behind : GoodIn wsX4_orderEnd wsX4_behind := goodIn_r _ [22, 1, 2, 3, 4, 5, 6, 7, 27, 28, 29, 30, 31, 32, 33] (by decide +kernel) (by decide +kernel)
set_option maxRecDepth 20000 in
theorem gX4_orderEnd_X4_behind : GoodIn wsX4_orderEnd (wsV RX4 149 RX4 yX4_behind wsX4_behind) := goodIn_app (goodIn_of _ (by decide +kernel)) ggX4_orderEnd_X4_behind
set_option maxRecDepth 20000 in
theorem ggX4_orderEnd_X4_numberEnd : GoodIn wsX4_orderEnd wsX4_numberEnd := goodIn_r _ [26, 12, 13, 14, 4, 15, 1, 2, 3, 5, 6, 7, 16, 17, 18, 27, 28, 29, 30, 31, 32, 33] (by decide +kernel) (by decide +kernel)
set_option maxRecDepth 20000 in
theorem gX4_orderEnd_X4_numberEnd : GoodIn wsX4_orderEnd (wsV RX4 143 RX4 yX4_numberEnd wsX4_numberEnd) := goodIn_app (goodIn_of _ (by decide +kernel)) ggX4_orderEnd_X4_numberEnd
set_option maxRecDepth 20000 in
theorem ggX4_fault_X4_orderEnd : GoodIn wsX4_fault wsX4_orderEnd := goodIn_r _ [6, 7, 8, 9, 5, 10, 1, 11, 12, 13, 14, 15, 16, 17, 18, 19, 20, 21, 22, 23, 24, 25, 26, 27, 28, 29, 30, 31, 32, 33, 34, 35, 36, 37] (by decide +kernel) (by decide +kernel)
set_option maxRecDepth 20000 in
theorem gX4_fault_X4_orderEnd : GoodIn wsX4_fault (wsV RX4 152 RX4 yX4_orderEnd wsX4_orderEnd) := goodIn_app (goodIn_of _ (by decide +kernel)) ggX4_fault_X4_orderEnd
set_option maxRecDepth 20000 in
theorem ggX4_fault_X4_sign : GoodIn wsX4_fault wsX4_sign := goodIn_r _ [10, 1, 11, 31, 32, 33, 34, 35, 36, 37] (by decide +kernel) (by decide +kernel)
set_option maxRecDepth 20000 in
theorem gX4_fault_X4_sign : GoodIn wsX4_fault (wsV RX4 137 RX4 yX4_sign wsX4_sign) := goodIn_app (goodIn_of _ (by decide +kernel)) ggX4_fault_X4_sign
set_option maxRecDepth 20000 in
theorem ggX4_markIn_X4_sign : GoodIn wsX4_markIn wsX4_sign := goodIn_r _ [5, 6, 7, 8, 9, 10, 11, 12, 13, 14] (by decide +kernel) (by decide +kernel)
set_option maxRecDepth 20000 in
theorem gX4_markIn_X4_sign : GoodIn wsX4_markIn (wsV RX4 137 RX4 yX4_sign wsX4_sign) := goodIn_app (goodIn_of _ (by decide +kernel)) ggX4_markIn_X4_sign
set_option maxRecDepth 20000 in
theorem ggX4_whyNot_X4_digit : GoodIn wsX4_whyNot wsX4_digit := goodIn_r _ [6, 7, 8, 9, 5, 10, 11, 12, 13, 14, 15, 70, 71, 72, 73, 74, 75, 76] (by decide +kernel) (by decide +kernel)
set_option maxRecDepth 20000 in
theorem gX4_whyNot_X4_digit : GoodIn wsX4_whyNot (wsV RX4 140 RX4 yX4_digit wsX4_digit) := goodIn_app (goodIn_of _ (by decide +kernel)) ggX4_whyNot_X4_digit
set_option maxRecDepth 20000 in
theorem ggX4_whyNot_X4_sign : GoodIn wsX4_whyNot wsX4_sign := goodIn_r _ [10, 11, 12, 70, 71, 72, 73, 74, 75, 76] (by decide +kernel) (by decide +kernel)
set_option maxRecDepth 20000 in
theorem gX4_whyNot_X4_sign : GoodIn wsX4_whyNot (wsV RX4 137 RX4 yX4_sign wsX4_sign) := goodIn_app (goodIn_of _ (by decide +kernel)) ggX4_whyNot_X4_sign
set_option maxRecDepth 20000 in
theorem ggX4_whyNot_X4_numberAt : GoodIn wsX4_whyNot wsX4_numberAt := goodIn_r _ [19, 20, 21, 22, 5, 23, 2, 3, 4, 6, 7, 8, 9, 10, 11, 12, 13, 14, 15, 70, 71, 72, 73, 74, 75, 76] (by decide +kernel) (by decide +kernel)
set_option maxRecDepth 20000 in
theorem gX4_whyNot_X4_numberAt : GoodIn wsX4_whyNot (wsV RX4 155 RX4 yX4_numberAt wsX4_numberAt) := goodIn_app (goodIn_of _ (by decide +kernel)) ggX4_whyNot_X4_numberAt
set_option maxRecDepth 20000 in
theorem ggX4_whyNot_X4_whyNotArgue : GoodIn wsX4_whyNot wsX4_whyNotArgue := goodIn_r _ [27, 1, 28, 29, 5, 30, 13, 14, 15, 31, 32, 33, 34, 35, 36, 37, 38, 39, 40, 41, 42, 43, 44, 45, 46, 70, 71, 72, 73, 74, 75, 76] (by decide +kernel) (by decide +kernel)
set_option maxRecDepth 20000 in
theorem gX4_whyNot_X4_whyNotArgue : GoodIn wsX4_whyNot (wsV RX4 72 RX4 yX4_whyNotArgue wsX4_whyNotArgue) := goodIn_app (goodIn_of _ (by decide +kernel)) ggX4_whyNot_X4_whyNotArgue
set_option maxRecDepth 20000 in
theorem ggX4_whyNot_X4_numberEnd : GoodIn wsX4_whyNot wsX4_numberEnd := goodIn_r _ [23, 2, 3, 4, 5, 6, 7, 8, 9, 10, 11, 12, 13, 14, 15, 70, 71, 72, 73, 74, 75, 76] (by decide +kernel) (by decide +kernel)
set_option maxRecDepth 20000 in
theorem gX4_whyNot_X4_numberEnd : GoodIn wsX4_whyNot (wsV RX4 143 RX4 yX4_numberEnd wsX4_numberEnd) := goodIn_app (goodIn_of _ (by decide +kernel)) ggX4_whyNot_X4_numberEnd
set_option maxRecDepth 20000 in
theorem ggX4_whyNot_X4_whyNotPrint : GoodIn wsX4_whyNot wsX4_whyNotPrint := goodIn_r _ [50, 1, 31, 32, 5, 33, 13, 14, 15, 38, 39, 40, 51, 52, 53, 70, 71, 72, 73, 74, 75, 76] (by decide +kernel) (by decide +kernel)
set_option maxRecDepth 20000 in
theorem gX4_whyNot_X4_whyNotPrint : GoodIn wsX4_whyNot (wsV RX4 98 RX4 yX4_whyNotPrint wsX4_whyNotPrint) := goodIn_app (goodIn_of _ (by decide +kernel)) ggX4_whyNot_X4_whyNotPrint
set_option maxRecDepth 20000 in
theorem ggX4_whyNot_X4_in : GoodIn wsX4_whyNot wsX4_in := goodIn_r _ [15] (by decide +kernel) (by decide +kernel)
set_option maxRecDepth 20000 in
theorem gX4_whyNot_X4_in : GoodIn wsX4_whyNot (va_wsS RX4 33 yX4_in wsX4_in) := goodIn_app (goodIn_of _ (by decide +kernel)) ggX4_whyNot_X4_in
set_option maxRecDepth 20000 in
theorem ggX4_whyNot_X4_markIn : GoodIn wsX4_whyNot wsX4_markIn := goodIn_r _ [57, 7, 8, 9, 5, 10, 11, 12, 70, 71, 72, 73, 74, 75, 76] (by decide +kernel) (by decide +kernel)
set_option maxRecDepth 20000 in
theorem gX4_whyNot_X4_markIn : GoodIn wsX4_whyNot (wsV RX4 158 RX4 yX4_markIn wsX4_markIn) := goodIn_app (goodIn_of _ (by decide +kernel)) ggX4_whyNot_X4_markIn
set_option maxRecDepth 20000 in
theorem ggX4_whyNot_X4_whyNotMark : GoodIn wsX4_whyNot wsX4_whyNotMark := goodIn_r _ [61, 1, 28, 29, 5, 30, 13, 14, 15, 31, 32, 33, 62, 63, 64, 65, 38, 39, 40, 34, 35, 36, 37, 41, 42, 43, 66, 67, 68, 69, 70, 71, 72, 73, 74, 75, 76] (by decide +kernel) (by decide +kernel)
set_option maxRecDepth 20000 in
theorem gX4_whyNot_X4_whyNotMark : GoodIn wsX4_whyNot (wsV RX4 61 RX4 yX4_whyNotMark wsX4_whyNotMark) := goodIn_app (goodIn_of _ (by decide +kernel)) ggX4_whyNot_X4_whyNotMark
set_option maxRecDepth 20000 in
theorem ggX4_does_X4_digit : GoodIn wsX4_does wsX4_digit := goodIn_r _ [5, 6, 7, 8, 4, 9, 10, 11, 12, 13, 14, 83, 84, 85, 86, 87, 88, 89] (by decide +kernel) (by decide +kernel)
set_option maxRecDepth 20000 in
theorem gX4_does_X4_digit : GoodIn wsX4_does (wsV RX4 140 RX4 yX4_digit wsX4_digit) := goodIn_app (goodIn_of _ (by decide +kernel)) ggX4_does_X4_digit
set_option maxRecDepth 20000 in
theorem ggX4_does_X4_sign : GoodIn wsX4_does wsX4_sign := goodIn_r _ [9, 10, 11, 83, 84, 85, 86, 87, 88, 89] (by decide +kernel) (by decide +kernel)
set_option maxRecDepth 20000 in
theorem gX4_does_X4_sign : GoodIn wsX4_does (wsV RX4 137 RX4 yX4_sign wsX4_sign) := goodIn_app (goodIn_of _ (by decide +kernel)) ggX4_does_X4_sign
set_option maxRecDepth 20000 in
theorem ggX4_does_X4_numberAt : GoodIn wsX4_does wsX4_numberAt := goodIn_r _ [18, 19, 20, 21, 4, 22, 1, 2, 3, 5, 6, 7, 8, 9, 10, 11, 12, 13, 14, 83, 84, 85, 86, 87, 88, 89] (by decide +kernel) (by decide +kernel)
set_option maxRecDepth 20000 in
theorem gX4_does_X4_numberAt : GoodIn wsX4_does (wsV RX4 155 RX4 yX4_numberAt wsX4_numberAt) := goodIn_app (goodIn_of _ (by decide +kernel)) ggX4_does_X4_numberAt
set_option maxRecDepth 20000 in
theorem ggX4_does_X4_argues : GoodIn wsX4_does wsX4_argues := goodIn_r _ [26, 27, 28, 29, 4, 30, 31, 32, 33, 34, 35, 36, 37, 38, 39, 40, 41, 42, 43, 44, 83, 84, 85, 86, 87, 88, 89] (by decide +kernel) (by decide +kernel)
set_option maxRecDepth 20000 in
theorem gX4_does_X4_argues : GoodIn wsX4_does (wsV RX4 75 RX4 yX4_argues wsX4_argues) := goodIn_app (goodIn_of _ (by decide +kernel)) ggX4_does_X4_argues
set_option maxRecDepth 20000 in
theorem ggX4_does_X4_rounds : GoodIn wsX4_does wsX4_rounds := goodIn_r _ [48, 27, 49, 50, 51, 4, 52, 35, 36, 37, 53, 54, 55, 56, 57, 58, 59, 60, 61, 62, 63, 64, 41, 42, 43, 44, 38, 39, 40, 65, 66, 67, 28, 29, 30, 83, 84, 85, 86, 87, 88, 89] (by decide +kernel) (by decide +kernel)
set_option maxRecDepth 20000 in
theorem gX4_does_X4_rounds : GoodIn wsX4_does (wsV RX4 91 RX4 yX4_rounds wsX4_rounds) := goodIn_app (goodIn_of _ (by decide +kernel)) ggX4_does_X4_rounds
set_option maxRecDepth 20000 in
theorem ggX4_does_X4_numberEnd : GoodIn wsX4_does wsX4_numberEnd := goodIn_r _ [22, 1, 2, 3, 4, 5, 6, 7, 8, 9, 10, 11, 12, 13, 14, 83, 84, 85, 86, 87, 88, 89] (by decide +kernel) (by decide +kernel)
set_option maxRecDepth 20000 in
theorem gX4_does_X4_numberEnd : GoodIn wsX4_does (wsV RX4 143 RX4 yX4_numberEnd wsX4_numberEnd) := goodIn_app (goodIn_of _ (by decide +kernel)) ggX4_does_X4_numberEnd
set_option maxRecDepth 20000 in
theorem ggX4_does_X4_prints : GoodIn wsX4_does wsX4_prints := goodIn_r _ [71, 27, 35, 36, 4, 37, 72, 73, 74, 83, 84, 85, 86, 87, 88, 89] (by decide +kernel) (by decide +kernel)
set_option maxRecDepth 20000 in
theorem gX4_does_X4_prints : GoodIn wsX4_does (wsV RX4 101 RX4 yX4_prints wsX4_prints) := goodIn_app (goodIn_of _ (by decide +kernel)) ggX4_does_X4_prints
set_option maxRecDepth 20000 in
theorem ggX4_does_X4_buys : GoodIn wsX4_does wsX4_buys := goodIn_r _ [78, 27, 83, 84, 85, 86, 87, 88, 89] (by decide +kernel) (by decide +kernel)
set_option maxRecDepth 20000 in
theorem gX4_does_X4_buys : GoodIn wsX4_does (wsV RX4 104 RX4 yX4_buys wsX4_buys) := goodIn_app (goodIn_of _ (by decide +kernel)) ggX4_does_X4_buys
set_option maxRecDepth 20000 in
theorem ggX4_does_X4_markIn : GoodIn wsX4_does wsX4_markIn := goodIn_r _ [82, 6, 7, 8, 4, 9, 10, 11, 83, 84, 85, 86, 87, 88, 89] (by decide +kernel) (by decide +kernel)
set_option maxRecDepth 20000 in
theorem gX4_does_X4_markIn : GoodIn wsX4_does (wsV RX4 158 RX4 yX4_markIn wsX4_markIn) := goodIn_app (goodIn_of _ (by decide +kernel)) ggX4_does_X4_markIn
set_option maxRecDepth 20000 in
theorem ggX4_does_X4_marks : GoodIn wsX4_does wsX4_marks := goodIn_r _ [34, 27, 35, 36, 4, 37, 38, 39, 40, 41, 42, 43, 44, 83, 84, 85, 86, 87, 88, 89] (by decide +kernel) (by decide +kernel)
set_option maxRecDepth 20000 in
theorem gX4_does_X4_marks : GoodIn wsX4_does (wsV RX4 68 RX4 yX4_marks wsX4_marks) := goodIn_app (goodIn_of _ (by decide +kernel)) ggX4_does_X4_marks
set_option maxRecDepth 20000 in
theorem ggX4_carryOut_X4_fault : GoodIn wsX4_carryOut wsX4_fault := goodIn_r _ [6, 1, 7, 8, 9, 5, 10, 11, 12, 13, 14, 15, 16, 17, 18, 19, 20, 21, 22, 23, 24, 25, 26, 27, 28, 29, 30, 31, 32, 33, 34, 135, 136, 137, 138, 139, 140, 141] (by decide +kernel) (by decide +kernel)
set_option maxRecDepth 20000 in
theorem gX4_carryOut_X4_fault : GoodIn wsX4_carryOut (wsV RX4 161 RX4 yX4_fault wsX4_fault) := goodIn_app (goodIn_of _ (by decide +kernel)) ggX4_carryOut_X4_fault
set_option maxRecDepth 20000 in
theorem ggX4_carryOut_X4_remembers : GoodIn wsX4_carryOut wsX4_remembers := goodIn_r _ [38, 39, 40, 41, 135, 136, 137, 138, 139, 140, 141] (by decide +kernel) (by decide +kernel)
set_option maxRecDepth 20000 in
theorem gX4_carryOut_X4_remembers : GoodIn wsX4_carryOut (wsV RX4 65 RX4 yX4_remembers wsX4_remembers) := goodIn_app (goodIn_of _ (by decide +kernel)) ggX4_carryOut_X4_remembers
set_option maxRecDepth 20000 in
theorem ggX4_carryOut_X4_whyNot : GoodIn wsX4_carryOut wsX4_whyNot := goodIn_r _ [45, 41, 20, 21, 22, 5, 23, 11, 12, 13, 14, 1, 15, 24, 25, 26, 46, 47, 48, 49, 31, 32, 33, 34, 50, 51, 52, 53, 54, 55, 56, 57, 58, 59, 60, 61, 62, 63, 64, 65, 66, 67, 68, 69, 70, 71, 72, 73, 74, 75, 76, 77, 78, 79, 80, 81, 82, 83, 84, 85, 86, 87, 88, 89, 90, 91, 92, 93, 94, 95, 135, 136, 137, 138, 139, 140, 141] (by decide +kernel) (by decide +kernel)
set_option maxRecDepth 20000 in
theorem gX4_carryOut_X4_whyNot : GoodIn wsX4_carryOut (wsV RX4 164 RX4 yX4_whyNot wsX4_whyNot) := goodIn_app (goodIn_of _ (by decide +kernel)) ggX4_carryOut_X4_whyNot
set_option maxRecDepth 20000 in
theorem ggX4_carryOut_X4_does : GoodIn wsX4_carryOut wsX4_does := goodIn_r _ [99, 20, 21, 22, 5, 23, 11, 12, 13, 14, 1, 15, 24, 25, 26, 46, 47, 48, 49, 31, 32, 33, 34, 100, 101, 102, 103, 41, 70, 71, 72, 104, 105, 106, 107, 64, 65, 66, 67, 68, 69, 60, 61, 62, 63, 108, 109, 110, 111, 88, 89, 90, 91, 112, 113, 114, 115, 116, 117, 118, 119, 120, 121, 122, 123, 124, 125, 126, 127, 128, 129, 130, 77, 78, 79, 131, 132, 133, 134, 80, 81, 82, 83, 135, 136, 137, 138, 139, 140, 141] (by decide +kernel) (by decide +kernel)
set_option maxRecDepth 20000 in
theorem gX4_carryOut_X4_does : GoodIn wsX4_carryOut (wsV RX4 167 RX4 yX4_does wsX4_does) := goodIn_app (goodIn_of _ (by decide +kernel)) ggX4_carryOut_X4_does
set_option maxRecDepth 20000 in
theorem ggX4_carryOut_X4_orderEnd : GoodIn wsX4_carryOut wsX4_orderEnd := goodIn_r _ [10, 11, 12, 13, 5, 14, 1, 15, 16, 17, 18, 19, 20, 21, 22, 23, 24, 25, 26, 27, 28, 29, 30, 31, 32, 33, 34, 135, 136, 137, 138, 139, 140, 141] (by decide +kernel) (by decide +kernel)
set_option maxRecDepth 20000 in
theorem gX4_carryOut_X4_orderEnd : GoodIn wsX4_carryOut (wsV RX4 152 RX4 yX4_orderEnd wsX4_orderEnd) := goodIn_app (goodIn_of _ (by decide +kernel)) ggX4_carryOut_X4_orderEnd
set_option maxRecDepth 20000 in
theorem ggX4_save_X4_in : GoodIn wsX4_save wsX4_in := goodIn_r _ [7] (by decide +kernel) (by decide +kernel)
set_option maxRecDepth 20000 in
theorem gX4_save_X4_in : GoodIn wsX4_save (va_wsS RX4 33 yX4_in wsX4_in) := goodIn_app (goodIn_of _ (by decide +kernel)) ggX4_save_X4_in
set_option maxRecDepth 20000 in
theorem ggX4_restore_X4_in : GoodIn wsX4_restore wsX4_in := goodIn_r _ [7] (by decide +kernel) (by decide +kernel)
set_option maxRecDepth 20000 in
theorem gX4_restore_X4_in : GoodIn wsX4_restore (va_wsS RX4 33 yX4_in wsX4_in) := goodIn_app (goodIn_of _ (by decide +kernel)) ggX4_restore_X4_in
set_option maxRecDepth 20000 in
theorem ggX4_restore_X4_remembers : GoodIn wsX4_restore wsX4_remembers := goodIn_r _ [11, 12, 13, 2, 14, 15, 16, 17, 18, 19, 20] (by decide +kernel) (by decide +kernel)
set_option maxRecDepth 20000 in
theorem gX4_restore_X4_remembers : GoodIn wsX4_restore (wsV RX4 65 RX4 yX4_remembers wsX4_remembers) := goodIn_app (goodIn_of _ (by decide +kernel)) ggX4_restore_X4_remembers
