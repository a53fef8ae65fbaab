set_option maxRecDepth 20000 in
theorem ggX1_append_X1_charactersIn : GoodIn wsX1_append wsX1_charactersIn := goodIn_r _ [7, 3, 8, 9] (by decide +kernel) (by decide +kernel)
set_option maxRecDepth 20000 in
theorem gX1_append_X1_charactersIn : GoodIn wsX1_append (va_wsS RX1 38 yX1_charactersIn wsX1_charactersIn) := goodIn_app (goodIn_of _ (by decide +kernel)) ggX1_append_X1_charactersIn
set_option maxRecDepth 20000 in
theorem ggX1_faultAt_X1_rewind : GoodIn wsX1_faultAt wsX1_rewind := goodIn_r _ [7, 1, 54, 55, 56, 57, 58, 59, 60, 61] (by decide +kernel) (by decide +kernel)
set_option maxRecDepth 20000 in
theorem gX1_faultAt_X1_rewind : GoodIn wsX1_faultAt (wsV RX1 48 RX1 yX1_rewind wsX1_rewind) := goodIn_app (goodIn_of _ (by decide +kernel)) ggX1_faultAt_X1_rewind
set_option maxRecDepth 20000 in
theorem ggX1_faultAt_X1_nextOrder : GoodIn wsX1_faultAt wsX1_nextOrder := goodIn_r _ [11, 1, 12, 13, 14, 6, 15, 16, 17, 18, 19, 2, 20, 21, 22, 23, 24, 25, 26, 27, 28, 29, 30, 31, 32, 33, 34, 35, 36, 37, 38, 39, 40, 41, 42, 43, 44, 45, 46, 47, 48, 49, 50, 51, 52, 53, 54, 55, 56, 57, 58, 59, 60, 61] (by decide +kernel) (by decide +kernel)
set_option maxRecDepth 20000 in
theorem gX1_faultAt_X1_nextOrder : GoodIn wsX1_faultAt (wsV RX1 51 RX1 yX1_nextOrder wsX1_nextOrder) := goodIn_app (goodIn_of _ (by decide +kernel)) ggX1_faultAt_X1_nextOrder
set_option maxRecDepth 20000 in
theorem ggX1_nextOrder_X1_take : GoodIn wsX1_nextOrder wsX1_take := goodIn_r _ [6, 1, 7, 8, 9, 5, 10, 11, 12, 46, 47, 48, 49, 50, 51, 52, 53] (by decide +kernel) (by decide +kernel)
set_option maxRecDepth 20000 in
theorem gX1_nextOrder_X1_take : GoodIn wsX1_nextOrder (wsV RX1 55 RX1 yX1_take wsX1_take) := goodIn_app (goodIn_of _ (by decide +kernel)) ggX1_nextOrder_X1_take
set_option maxRecDepth 20000 in
theorem ggX1_nextOrder_X1_takeOrder : GoodIn wsX1_nextOrder wsX1_takeOrder := goodIn_r _ [16, 17, 7, 8, 9, 5, 10, 1, 11, 12, 2, 3, 4, 6, 18, 19, 20, 21, 22, 23, 24, 25, 26, 27, 28, 29, 30, 31, 32, 33, 34, 35, 36, 37, 38, 39, 40, 41, 42, 43, 44, 45, 46, 47, 48, 49, 50, 51, 52, 53] (by decide +kernel) (by decide +kernel)
set_option maxRecDepth 20000 in
theorem gX1_nextOrder_X1_takeOrder : GoodIn wsX1_nextOrder (wsV RX1 59 RX1 yX1_takeOrder wsX1_takeOrder) := goodIn_app (goodIn_of _ (by decide +kernel)) ggX1_nextOrder_X1_takeOrder
set_option maxRecDepth 20000 in
theorem ggX1_takeOrder_X1_here : GoodIn wsX1_takeOrder wsX1_here := goodIn_r _ [6, 7, 8, 9, 42, 43, 44, 45, 46, 47, 48, 49] (by decide +kernel) (by decide +kernel)
set_option maxRecDepth 20000 in
theorem gX1_takeOrder_X1_here : GoodIn wsX1_takeOrder (wsV RX1 62 RX1 yX1_here wsX1_here) := goodIn_app (goodIn_of _ (by decide +kernel)) ggX1_takeOrder_X1_here
set_option maxRecDepth 20000 in
theorem ggX1_takeOrder_X1_take : GoodIn wsX1_takeOrder wsX1_take := goodIn_r _ [13, 7, 2, 3, 4, 5, 6, 8, 9, 42, 43, 44, 45, 46, 47, 48, 49] (by decide +kernel) (by decide +kernel)
set_option maxRecDepth 20000 in
theorem gX1_takeOrder_X1_take : GoodIn wsX1_takeOrder (wsV RX1 55 RX1 yX1_take wsX1_take) := goodIn_app (goodIn_of _ (by decide +kernel)) ggX1_takeOrder_X1_take
set_option maxRecDepth 20000 in
theorem ggX1_takeOrder_X1_takeEditor : GoodIn wsX1_takeOrder wsX1_takeEditor := goodIn_r _ [17, 18, 19, 20, 21, 5, 22, 2, 3, 4, 6, 7, 8, 9, 23, 24, 25, 26, 42, 43, 44, 45, 46, 47, 48, 49] (by decide +kernel) (by decide +kernel)
set_option maxRecDepth 20000 in
theorem gX1_takeOrder_X1_takeEditor : GoodIn wsX1_takeOrder (wsV RX1 66 RX1 yX1_takeEditor wsX1_takeEditor) := goodIn_app (goodIn_of _ (by decide +kernel)) ggX1_takeOrder_X1_takeEditor
set_option maxRecDepth 20000 in
theorem ggX1_takeOrder_X1_takeNumber : GoodIn wsX1_takeOrder wsX1_takeNumber := goodIn_r _ [30, 31, 19, 20, 21, 5, 22, 2, 3, 4, 6, 7, 8, 9, 23, 24, 25, 26, 42, 43, 44, 45, 46, 47, 48, 49] (by decide +kernel) (by decide +kernel)
set_option maxRecDepth 20000 in
theorem gX1_takeOrder_X1_takeNumber : GoodIn wsX1_takeOrder (wsV RX1 69 RX1 yX1_takeNumber wsX1_takeNumber) := goodIn_app (goodIn_of _ (by decide +kernel)) ggX1_takeOrder_X1_takeNumber
set_option maxRecDepth 20000 in
theorem ggX1_takeOrder_X1_takeOther : GoodIn wsX1_takeOrder wsX1_takeOther := goodIn_r _ [35, 36, 19, 20, 21, 5, 22, 2, 3, 4, 6, 7, 8, 9, 23, 24, 25, 26, 42, 43, 44, 45, 46, 47, 48, 49] (by decide +kernel) (by decide +kernel)
set_option maxRecDepth 20000 in
theorem gX1_takeOrder_X1_takeOther : GoodIn wsX1_takeOrder (wsV RX1 72 RX1 yX1_takeOther wsX1_takeOther) := goodIn_app (goodIn_of _ (by decide +kernel)) ggX1_takeOrder_X1_takeOther
set_option maxRecDepth 20000 in
theorem ggX1_takeOrder_X1_takeSize : GoodIn wsX1_takeOrder wsX1_takeSize := goodIn_r _ [40, 41, 19, 20, 21, 5, 22, 2, 3, 4, 6, 7, 8, 9, 23, 24, 25, 26, 42, 43, 44, 45, 46, 47, 48, 49] (by decide +kernel) (by decide +kernel)
set_option maxRecDepth 20000 in
theorem gX1_takeOrder_X1_takeSize : GoodIn wsX1_takeOrder (wsV RX1 75 RX1 yX1_takeSize wsX1_takeSize) := goodIn_app (goodIn_of _ (by decide +kernel)) ggX1_takeOrder_X1_takeSize
set_option maxRecDepth 20000 in
theorem ggX1_takeEditor_X1_digitHere : GoodIn wsX1_takeEditor wsX1_digitHere := goodIn_r _ [6, 7, 8, 9, 5, 10, 11, 12, 13, 18, 19, 20, 21, 22, 23, 24, 25] (by decide +kernel) (by decide +kernel)
set_option maxRecDepth 20000 in
theorem gX1_takeEditor_X1_digitHere : GoodIn wsX1_takeEditor (wsV RX1 78 RX1 yX1_digitHere wsX1_digitHere) := goodIn_app (goodIn_of _ (by decide +kernel)) ggX1_takeEditor_X1_digitHere
set_option maxRecDepth 20000 in
theorem ggX1_takeEditor_X1_pass : GoodIn wsX1_takeEditor wsX1_pass := goodIn_r _ [17, 11, 18, 19, 20, 21, 22, 23, 24, 25] (by decide +kernel) (by decide +kernel)
set_option maxRecDepth 20000 in
theorem gX1_takeEditor_X1_pass : GoodIn wsX1_takeEditor (wsV RX1 82 RX1 yX1_pass wsX1_pass) := goodIn_app (goodIn_of _ (by decide +kernel)) ggX1_takeEditor_X1_pass
set_option maxRecDepth 20000 in
theorem ggX1_takeOther_X1_digitHere : GoodIn wsX1_takeOther wsX1_digitHere := goodIn_r _ [6, 7, 8, 9, 5, 10, 11, 12, 13, 18, 19, 20, 21, 22, 23, 24, 25] (by decide +kernel) (by decide +kernel)
set_option maxRecDepth 20000 in
theorem gX1_takeOther_X1_digitHere : GoodIn wsX1_takeOther (wsV RX1 78 RX1 yX1_digitHere wsX1_digitHere) := goodIn_app (goodIn_of _ (by decide +kernel)) ggX1_takeOther_X1_digitHere
set_option maxRecDepth 20000 in
theorem ggX1_takeOther_X1_pass : GoodIn wsX1_takeOther wsX1_pass := goodIn_r _ [17, 11, 18, 19, 20, 21, 22, 23, 24, 25] (by decide +kernel) (by decide +kernel)
set_option maxRecDepth 20000 in
theorem gX1_takeOther_X1_pass : GoodIn wsX1_takeOther (wsV RX1 82 RX1 yX1_pass wsX1_pass) := goodIn_app (goodIn_of _ (by decide +kernel)) ggX1_takeOther_X1_pass
set_option maxRecDepth 20000 in
theorem ggX1_takeSize_X1_digitHere : GoodIn wsX1_takeSize wsX1_digitHere := goodIn_r _ [6, 7, 8, 9, 5, 10, 11, 12, 13, 18, 19, 20, 21, 22, 23, 24, 25] (by decide +kernel) (by decide +kernel)
set_option maxRecDepth 20000 in
theorem gX1_takeSize_X1_digitHere : GoodIn wsX1_takeSize (wsV RX1 78 RX1 yX1_digitHere wsX1_digitHere) := goodIn_app (goodIn_of _ (by decide +kernel)) ggX1_takeSize_X1_digitHere
set_option maxRecDepth 20000 in
theorem ggX1_takeSize_X1_pass : GoodIn wsX1_takeSize wsX1_pass := goodIn_r _ [17, 11, 18, 19, 20, 21, 22, 23, 24, 25] (by decide +kernel) (by decide +kernel)
set_option maxRecDepth 20000 in
theorem gX1_takeSize_X1_pass : GoodIn wsX1_takeSize (wsV RX1 82 RX1 yX1_pass wsX1_pass) := goodIn_app (goodIn_of _ (by decide +kernel)) ggX1_takeSize_X1_pass
set_option maxRecDepth 20000 in
theorem ggX1_takeNumber_X1_digitHere : GoodIn wsX1_takeNumber wsX1_digitHere := goodIn_r _ [6, 7, 8, 9, 5, 10, 11, 12, 13, 18, 19, 20, 21, 22, 23, 24, 25] (by decide +kernel) (by decide +kernel)
set_option maxRecDepth 20000 in
theorem gX1_takeNumber_X1_digitHere : GoodIn wsX1_takeNumber (wsV RX1 78 RX1 yX1_digitHere wsX1_digitHere) := goodIn_app (goodIn_of _ (by decide +kernel)) ggX1_takeNumber_X1_digitHere
set_option maxRecDepth 20000 in
theorem ggX1_takeNumber_X1_pass : GoodIn wsX1_takeNumber wsX1_pass := goodIn_r _ [17, 11, 18, 19, 20, 21, 22, 23, 24, 25] (by decide +kernel) (by decide +kernel)
set_option maxRecDepth 20000 in
theorem gX1_takeNumber_X1_pass : GoodIn wsX1_takeNumber (wsV RX1 82 RX1 yX1_pass wsX1_pass) := goodIn_app (goodIn_of _ (by decide +kernel)) ggX1_takeNumber_X1_pass
set_option maxRecDepth 20000 in
theorem ggX1_take_X1_here : GoodIn wsX1_take wsX1_here := goodIn_r _ [6, 1, 7, 8, 9, 10, 11, 12, 13, 14, 15, 16] (by decide +kernel) (by decide +kernel)
set_option maxRecDepth 20000 in
theorem gX1_take_X1_here : GoodIn wsX1_take (wsV RX1 62 RX1 yX1_here wsX1_here) := goodIn_app (goodIn_of _ (by decide +kernel)) ggX1_take_X1_here
set_option maxRecDepth 20000 in
theorem ggX1_digitHere_X1_here : GoodIn wsX1_digitHere wsX1_here := goodIn_r _ [5, 6, 7, 8, 9, 10, 11, 12, 13, 14, 15, 16] (by decide +kernel) (by decide +kernel)
set_option maxRecDepth 20000 in
theorem gX1_digitHere_X1_here : GoodIn wsX1_digitHere (wsV RX1 62 RX1 yX1_here wsX1_here) := goodIn_app (goodIn_of _ (by decide +kernel)) ggX1_digitHere_X1_here
