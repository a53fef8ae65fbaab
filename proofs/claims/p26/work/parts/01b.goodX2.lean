set_option maxRecDepth 20000 in
theorem ggX2_putMark_X2_isEditor : GoodIn wsX2_putMark wsX2_isEditor := goodIn_r _ [7] (by decide +kernel) (by decide +kernel)
set_option maxRecDepth 20000 in
theorem gX2_putMark_X2_isEditor : GoodIn wsX2_putMark (va_wsS RX2 70 yX2_isEditor wsX2_isEditor) := goodIn_app (goodIn_of _ (by decide +kernel)) ggX2_putMark_X2_isEditor
set_option maxRecDepth 20000 in
theorem ggX2_putMark_X2_isFrame : GoodIn wsX2_putMark wsX2_isFrame := goodIn_r _ [10] (by decide +kernel) (by decide +kernel)
set_option maxRecDepth 20000 in
theorem gX2_putMark_X2_isFrame : GoodIn wsX2_putMark (va_wsS RX2 74 yX2_isFrame wsX2_isFrame) := goodIn_app (goodIn_of _ (by decide +kernel)) ggX2_putMark_X2_isFrame
set_option maxRecDepth 20000 in
theorem ggX2_putMark_X2_markOf : GoodIn wsX2_putMark wsX2_markOf := goodIn_r _ [14, 2, 3, 31, 32, 33, 34, 35, 36, 37, 38, 39, 40, 41, 42, 43, 44, 45] (by decide +kernel) (by decide +kernel)
set_option maxRecDepth 20000 in
theorem gX2_putMark_X2_markOf : GoodIn wsX2_putMark (wsV RX2 77 RX2 yX2_markOf wsX2_markOf) := goodIn_app (goodIn_of _ (by decide +kernel)) ggX2_putMark_X2_markOf
set_option maxRecDepth 20000 in
theorem ggX2_putMark_X2_vetoesLeft : GoodIn wsX2_putMark wsX2_vetoesLeft := goodIn_r _ [18, 19, 20, 21, 22, 23, 24, 25, 26, 6, 27, 11, 12, 13, 14, 2, 3, 31, 32, 33, 34, 35, 36, 37, 38, 39, 40, 41, 42, 43, 44, 45] (by decide +kernel) (by decide +kernel)
set_option maxRecDepth 20000 in
theorem gX2_putMark_X2_vetoesLeft : GoodIn wsX2_putMark (wsV RX2 81 RX2 yX2_vetoesLeft wsX2_vetoesLeft) := goodIn_app (goodIn_of _ (by decide +kernel)) ggX2_putMark_X2_vetoesLeft
set_option maxRecDepth 20000 in
theorem ggX2_putMark_X2_withEditor : GoodIn wsX2_putMark wsX2_withEditor := goodIn_r _ [30] (by decide +kernel) (by decide +kernel)
set_option maxRecDepth 20000 in
theorem gX2_putMark_X2_withEditor : GoodIn wsX2_putMark (va_wsS RX2 85 yX2_withEditor wsX2_withEditor) := goodIn_app (goodIn_of _ (by decide +kernel)) ggX2_putMark_X2_withEditor
set_option maxRecDepth 20000 in
theorem ggX2_argueAgainst_X2_isEditor : GoodIn wsX2_argueAgainst wsX2_isEditor := goodIn_r _ [9] (by decide +kernel) (by decide +kernel)
set_option maxRecDepth 20000 in
theorem gX2_argueAgainst_X2_isEditor : GoodIn wsX2_argueAgainst (va_wsS RX2 70 yX2_isEditor wsX2_isEditor) := goodIn_app (goodIn_of _ (by decide +kernel)) ggX2_argueAgainst_X2_isEditor
set_option maxRecDepth 20000 in
theorem ggX2_argueAgainst_X2_isFrame : GoodIn wsX2_argueAgainst wsX2_isFrame := goodIn_r _ [12] (by decide +kernel) (by decide +kernel)
set_option maxRecDepth 20000 in
theorem gX2_argueAgainst_X2_isFrame : GoodIn wsX2_argueAgainst (va_wsS RX2 74 yX2_isFrame wsX2_isFrame) := goodIn_app (goodIn_of _ (by decide +kernel)) ggX2_argueAgainst_X2_isFrame
set_option maxRecDepth 20000 in
theorem ggX2_argueAgainst_X2_markOf : GoodIn wsX2_argueAgainst wsX2_markOf := goodIn_r _ [16, 17, 4, 21, 22, 23, 24, 25, 26, 27, 28, 29, 30, 31, 32, 33, 34, 35] (by decide +kernel) (by decide +kernel)
set_option maxRecDepth 20000 in
theorem gX2_argueAgainst_X2_markOf : GoodIn wsX2_argueAgainst (wsV RX2 77 RX2 yX2_markOf wsX2_markOf) := goodIn_app (goodIn_of _ (by decide +kernel)) ggX2_argueAgainst_X2_markOf
set_option maxRecDepth 20000 in
theorem ggX2_argueAgainst_X2_withEditor : GoodIn wsX2_argueAgainst wsX2_withEditor := goodIn_r _ [20] (by decide +kernel) (by decide +kernel)
set_option maxRecDepth 20000 in
theorem gX2_argueAgainst_X2_withEditor : GoodIn wsX2_argueAgainst (va_wsS RX2 85 yX2_withEditor wsX2_withEditor) := goodIn_app (goodIn_of _ (by decide +kernel)) ggX2_argueAgainst_X2_withEditor
set_option maxRecDepth 20000 in
theorem ggX2_endRound_X2_settle : GoodIn wsX2_endRound wsX2_settle := goodIn_r _ [12, 13, 2, 14, 15, 16, 17, 18, 11, 19, 20, 21, 22, 23, 24, 25, 26, 27, 28, 29, 30, 31, 32, 33, 34, 35, 36, 37, 38, 39, 40, 41, 1, 42, 43, 44, 45, 46, 47, 48, 49, 50, 51, 52, 53, 54, 55, 56, 57, 58, 59, 60, 61] (by decide +kernel) (by decide +kernel)
set_option maxRecDepth 20000 in
theorem gX2_endRound_X2_settle : GoodIn wsX2_endRound (wsV RX2 89 RX2 yX2_settle wsX2_settle) := goodIn_app (goodIn_of _ (by decide +kernel)) ggX2_endRound_X2_settle
set_option maxRecDepth 20000 in
theorem ggX2_printFrame_X2_isFrame : GoodIn wsX2_printFrame wsX2_isFrame := goodIn_r _ [9] (by decide +kernel) (by decide +kernel)
set_option maxRecDepth 20000 in
theorem gX2_printFrame_X2_isFrame : GoodIn wsX2_printFrame (va_wsS RX2 74 yX2_isFrame wsX2_isFrame) := goodIn_app (goodIn_of _ (by decide +kernel)) ggX2_printFrame_X2_isFrame
set_option maxRecDepth 20000 in
theorem ggX2_printFrame_X2_paperOf : GoodIn wsX2_printFrame wsX2_paperOf := goodIn_r _ [12] (by decide +kernel) (by decide +kernel)
set_option maxRecDepth 20000 in
theorem gX2_printFrame_X2_paperOf : GoodIn wsX2_printFrame (va_wsS RX2 97 yX2_paperOf wsX2_paperOf) := goodIn_app (goodIn_of _ (by decide +kernel)) ggX2_printFrame_X2_paperOf
set_option maxRecDepth 20000 in
theorem ggX2_openAgain_X2_isFrame : GoodIn wsX2_openAgain wsX2_isFrame := goodIn_r _ [7] (by decide +kernel) (by decide +kernel)
set_option maxRecDepth 20000 in
theorem gX2_openAgain_X2_isFrame : GoodIn wsX2_openAgain (va_wsS RX2 74 yX2_isFrame wsX2_isFrame) := goodIn_app (goodIn_of _ (by decide +kernel)) ggX2_openAgain_X2_isFrame
set_option maxRecDepth 20000 in
theorem ggX2_aboutFrame_X2_isFrame : GoodIn wsX2_aboutFrame wsX2_isFrame := goodIn_r _ [10] (by decide +kernel) (by decide +kernel)
set_option maxRecDepth 20000 in
theorem gX2_aboutFrame_X2_isFrame : GoodIn wsX2_aboutFrame (va_wsS RX2 74 yX2_isFrame wsX2_isFrame) := goodIn_app (goodIn_of _ (by decide +kernel)) ggX2_aboutFrame_X2_isFrame
set_option maxRecDepth 20000 in
theorem ggX2_aboutEditor_X2_isEditor : GoodIn wsX2_aboutEditor wsX2_isEditor := goodIn_r _ [8] (by decide +kernel) (by decide +kernel)
set_option maxRecDepth 20000 in
theorem gX2_aboutEditor_X2_isEditor : GoodIn wsX2_aboutEditor (va_wsS RX2 70 yX2_isEditor wsX2_isEditor) := goodIn_app (goodIn_of _ (by decide +kernel)) ggX2_aboutEditor_X2_isEditor
set_option maxRecDepth 20000 in
theorem ggX2_aboutEditor_X2_marksOf : GoodIn wsX2_aboutEditor wsX2_marksOf := goodIn_r _ [12, 13, 14, 15, 7, 16, 17, 18, 28, 29, 30, 31, 32, 33, 34, 35, 36, 37, 38, 39, 40, 41, 42] (by decide +kernel) (by decide +kernel)
set_option maxRecDepth 20000 in
theorem gX2_aboutEditor_X2_marksOf : GoodIn wsX2_aboutEditor (wsV RX2 100 RX2 yX2_marksOf wsX2_marksOf) := goodIn_app (goodIn_of _ (by decide +kernel)) ggX2_aboutEditor_X2_marksOf
set_option maxRecDepth 20000 in
theorem ggX2_aboutEditor_X2_vetoesLeft : GoodIn wsX2_aboutEditor wsX2_vetoesLeft := goodIn_r _ [22, 23, 24, 25, 26, 27, 9, 10, 11, 7, 12, 13, 14, 15, 16, 17, 18, 28, 29, 30, 31, 32, 33, 34, 35, 36, 37, 38, 39, 40, 41, 42] (by decide +kernel) (by decide +kernel)
set_option maxRecDepth 20000 in
theorem gX2_aboutEditor_X2_vetoesLeft : GoodIn wsX2_aboutEditor (wsV RX2 81 RX2 yX2_vetoesLeft wsX2_vetoesLeft) := goodIn_app (goodIn_of _ (by decide +kernel)) ggX2_aboutEditor_X2_vetoesLeft
set_option maxRecDepth 20000 in
theorem ggX2_chosenAt_X2_isPicked : GoodIn wsX2_chosenAt wsX2_isPicked := goodIn_r _ [7, 8, 9, 10, 11, 12, 13, 14, 15, 16, 17, 18, 19, 20, 21, 22, 23] (by decide +kernel) (by decide +kernel)
set_option maxRecDepth 20000 in
theorem gX2_chosenAt_X2_isPicked : GoodIn wsX2_chosenAt (wsV RX2 103 RX2 yX2_isPicked wsX2_isPicked) := goodIn_app (goodIn_of _ (by decide +kernel)) ggX2_chosenAt_X2_isPicked
set_option maxRecDepth 20000 in
theorem ggX2_numberOf_X2_framesThatAre : GoodIn wsX2_numberOf wsX2_framesThatAre := goodIn_r _ [10, 11, 24, 25, 26, 27, 28, 29, 30, 31, 32, 33, 34, 35, 36, 37, 38] (by decide +kernel) (by decide +kernel)
set_option maxRecDepth 20000 in
theorem gX2_numberOf_X2_framesThatAre : GoodIn wsX2_numberOf (wsV RX2 106 RX2 yX2_framesThatAre wsX2_framesThatAre) := goodIn_app (goodIn_of _ (by decide +kernel)) ggX2_numberOf_X2_framesThatAre
set_option maxRecDepth 20000 in
theorem ggX2_numberOf_X2_longestRow : GoodIn wsX2_numberOf wsX2_longestRow := goodIn_r _ [15, 16, 17, 18, 19, 20, 21, 22, 9, 23, 11, 24, 25, 26, 27, 28, 29, 30, 31, 32, 33, 34, 35, 36, 37, 38] (by decide +kernel) (by decide +kernel)
set_option maxRecDepth 20000 in
theorem gX2_numberOf_X2_longestRow : GoodIn wsX2_numberOf (wsV RX2 109 RX2 yX2_longestRow wsX2_longestRow) := goodIn_app (goodIn_of _ (by decide +kernel)) ggX2_numberOf_X2_longestRow
set_option maxRecDepth 20000 in
theorem ggX2_whyNotChosen_X2_isFrame : GoodIn wsX2_whyNotChosen wsX2_isFrame := goodIn_r _ [7] (by decide +kernel) (by decide +kernel)
set_option maxRecDepth 20000 in
theorem gX2_whyNotChosen_X2_isFrame : GoodIn wsX2_whyNotChosen (va_wsS RX2 74 yX2_isFrame wsX2_isFrame) := goodIn_app (goodIn_of _ (by decide +kernel)) ggX2_whyNotChosen_X2_isFrame
set_option maxRecDepth 20000 in
theorem ggX2_whyNotChosen_X2_isWanted : GoodIn wsX2_whyNotChosen wsX2_isWanted := goodIn_r _ [11, 12, 13, 14, 15, 16, 17, 18, 19, 20, 21, 22, 23, 24, 25, 26, 27, 28, 29, 30, 31, 32, 33, 34] (by decide +kernel) (by decide +kernel)
set_option maxRecDepth 20000 in
theorem gX2_whyNotChosen_X2_isWanted : GoodIn wsX2_whyNotChosen (wsV RX2 113 RX2 yX2_isWanted wsX2_isWanted) := goodIn_app (goodIn_of _ (by decide +kernel)) ggX2_whyNotChosen_X2_isWanted
set_option maxRecDepth 20000 in
theorem ggX2_roundWouldBring_X2_framesThatBecome : GoodIn wsX2_roundWouldBring wsX2_framesThatBecome := goodIn_r _ [5, 6, 7, 8, 9, 4, 10, 11, 12, 13, 14, 15, 16, 17, 18, 19, 20, 21, 22, 23, 24, 25, 26, 27, 28, 29, 30, 31, 32, 33, 34, 35, 36, 37, 38, 39, 40, 41, 42, 43, 44] (by decide +kernel) (by decide +kernel)
set_option maxRecDepth 20000 in
theorem gX2_roundWouldBring_X2_framesThatBecome : GoodIn wsX2_roundWouldBring (wsV RX2 117 RX2 yX2_framesThatBecome wsX2_framesThatBecome) := goodIn_app (goodIn_of _ (by decide +kernel)) ggX2_roundWouldBring_X2_framesThatBecome
set_option maxRecDepth 20000 in
theorem ggX2_deciders_X2_isFrame : GoodIn wsX2_deciders wsX2_isFrame := goodIn_r _ [5] (by decide +kernel) (by decide +kernel)
set_option maxRecDepth 20000 in
theorem gX2_deciders_X2_isFrame : GoodIn wsX2_deciders (va_wsS RX2 74 yX2_isFrame wsX2_isFrame) := goodIn_app (goodIn_of _ (by decide +kernel)) ggX2_deciders_X2_isFrame
set_option maxRecDepth 20000 in
theorem ggX2_deciders_X2_markDecides : GoodIn wsX2_deciders wsX2_markDecides := goodIn_r _ [9, 10, 11, 12, 13, 14, 4, 15, 16, 17, 18, 19, 20, 21, 22, 23, 24, 25, 26, 27, 28, 29, 30, 31, 32, 33, 34, 35, 36, 37, 38, 39, 40, 41] (by decide +kernel) (by decide +kernel)
set_option maxRecDepth 20000 in
theorem gX2_deciders_X2_markDecides : GoodIn wsX2_deciders (wsV RX2 120 RX2 yX2_markDecides wsX2_markDecides) := goodIn_app (goodIn_of _ (by decide +kernel)) ggX2_deciders_X2_markDecides
set_option maxRecDepth 20000 in
theorem ggX2_deciders_X2_withEditor : GoodIn wsX2_deciders wsX2_withEditor := goodIn_r _ [26] (by decide +kernel) (by decide +kernel)
set_option maxRecDepth 20000 in
theorem gX2_deciders_X2_withEditor : GoodIn wsX2_deciders (va_wsS RX2 85 yX2_withEditor wsX2_withEditor) := goodIn_app (goodIn_of _ (by decide +kernel)) ggX2_deciders_X2_withEditor
set_option maxRecDepth 20000 in
theorem ggX2_agreement_X2_isEditor : GoodIn wsX2_agreement wsX2_isEditor := goodIn_r _ [4] (by decide +kernel) (by decide +kernel)
set_option maxRecDepth 20000 in
theorem gX2_agreement_X2_isEditor : GoodIn wsX2_agreement (va_wsS RX2 70 yX2_isEditor wsX2_isEditor) := goodIn_app (goodIn_of _ (by decide +kernel)) ggX2_agreement_X2_isEditor
set_option maxRecDepth 20000 in
theorem ggX2_agreement_X2_markOf : GoodIn wsX2_agreement wsX2_markOf := goodIn_r _ [8, 9, 10, 11, 12, 13, 14, 15, 16, 17, 18, 19, 20, 21, 22, 23, 24, 25] (by decide +kernel) (by decide +kernel)
set_option maxRecDepth 20000 in
theorem gX2_agreement_X2_markOf : GoodIn wsX2_agreement (wsV RX2 77 RX2 yX2_markOf wsX2_markOf) := goodIn_app (goodIn_of _ (by decide +kernel)) ggX2_agreement_X2_markOf
set_option maxRecDepth 20000 in
theorem ggX2_paperForChosen_X2_paperOf : GoodIn wsX2_paperForChosen wsX2_paperOf := goodIn_r _ [6] (by decide +kernel) (by decide +kernel)
set_option maxRecDepth 20000 in
theorem gX2_paperForChosen_X2_paperOf : GoodIn wsX2_paperForChosen (va_wsS RX2 97 yX2_paperOf wsX2_paperOf) := goodIn_app (goodIn_of _ (by decide +kernel)) ggX2_paperForChosen_X2_paperOf
set_option maxRecDepth 20000 in
theorem ggX2_settle_X2_afterRound : GoodIn wsX2_settle wsX2_afterRound := goodIn_r _ [9, 4, 3, 10, 11, 12, 13, 14, 15, 16, 17, 18, 19, 20, 8, 21, 22, 23, 24, 25, 1, 38, 39, 40, 41, 42, 43, 44, 45, 46, 47, 48, 49, 50, 51, 52] (by decide +kernel) (by decide +kernel)
set_option maxRecDepth 20000 in
theorem gX2_settle_X2_afterRound : GoodIn wsX2_settle (wsV RX2 123 RX2 yX2_afterRound wsX2_afterRound) := goodIn_app (goodIn_of _ (by decide +kernel)) ggX2_settle_X2_afterRound
set_option maxRecDepth 20000 in
theorem ggX2_settle_X2_noteChoice : GoodIn wsX2_settle wsX2_noteChoice := goodIn_r _ [29, 30, 3, 31, 32, 33, 11, 12, 13, 14, 15, 16, 17, 34, 35, 36, 8, 37, 4, 38, 39, 40, 41, 42, 43, 44, 45, 46, 47, 48, 49, 50, 51, 52] (by decide +kernel) (by decide +kernel)
set_option maxRecDepth 20000 in
theorem gX2_settle_X2_noteChoice : GoodIn wsX2_settle (wsV RX2 126 RX2 yX2_noteChoice wsX2_noteChoice) := goodIn_app (goodIn_of _ (by decide +kernel)) ggX2_settle_X2_noteChoice
set_option maxRecDepth 20000 in
theorem ggX2_settle_X2_dullAfterRound : GoodIn wsX2_settle wsX2_dullAfterRound := goodIn_r _ [25, 3, 4, 1, 38, 39, 40, 41, 42, 43, 44, 45, 46, 47, 48, 49, 50, 51, 52] (by decide +kernel) (by decide +kernel)
set_option maxRecDepth 20000 in
theorem gX2_settle_X2_dullAfterRound : GoodIn wsX2_settle (wsV RX2 130 RX2 yX2_dullAfterRound wsX2_dullAfterRound) := goodIn_app (goodIn_of _ (by decide +kernel)) ggX2_settle_X2_dullAfterRound
set_option maxRecDepth 20000 in
theorem ggX2_noteChoice_J6_bitCount_0f7a4 : GoodIn wsX2_noteChoice wsJ6_bitCount_0f7a4 := goodIn_r _ [9, 10, 11, 12] (by decide +kernel) (by decide +kernel)
set_option maxRecDepth 20000 in
theorem gX2_noteChoice_J6_bitCount_0f7a4 : GoodIn wsX2_noteChoice (va_wsS RX2 133 yJ6_bitCount_0f7a4 wsJ6_bitCount_0f7a4) := goodIn_app (goodIn_of _ (by decide +kernel)) ggX2_noteChoice_J6_bitCount_0f7a4
set_option maxRecDepth 20000 in
theorem ggX2_noteChoice_X2_markOf : GoodIn wsX2_noteChoice wsX2_markOf := goodIn_r _ [17, 2, 18, 19, 20, 21, 22, 23, 24, 25, 26, 27, 28, 29, 30, 31, 32, 33] (by decide +kernel) (by decide +kernel)
set_option maxRecDepth 20000 in
theorem gX2_noteChoice_X2_markOf : GoodIn wsX2_noteChoice (wsV RX2 77 RX2 yX2_markOf wsX2_markOf) := goodIn_app (goodIn_of _ (by decide +kernel)) ggX2_noteChoice_X2_markOf
set_option maxRecDepth 20000 in
theorem ggX2_afterRound_J6_bitCount_0f7a4 : GoodIn wsX2_afterRound wsJ6_bitCount_0f7a4 := goodIn_r _ [7, 8, 9, 10] (by decide +kernel) (by decide +kernel)
set_option maxRecDepth 20000 in
theorem gX2_afterRound_J6_bitCount_0f7a4 : GoodIn wsX2_afterRound (va_wsS RX2 133 yJ6_bitCount_0f7a4 wsJ6_bitCount_0f7a4) := goodIn_app (goodIn_of _ (by decide +kernel)) ggX2_afterRound_J6_bitCount_0f7a4
set_option maxRecDepth 20000 in
theorem ggX2_afterRound_X2_isWanted : GoodIn wsX2_afterRound wsX2_isWanted := goodIn_r _ [15, 3, 4, 5, 6, 7, 8, 9, 10, 21, 22, 23, 24, 25, 26, 27, 28, 29, 30, 31, 32, 33, 34, 35] (by decide +kernel) (by decide +kernel)
set_option maxRecDepth 20000 in
theorem gX2_afterRound_X2_isWanted : GoodIn wsX2_afterRound (wsV RX2 113 RX2 yX2_isWanted wsX2_isWanted) := goodIn_app (goodIn_of _ (by decide +kernel)) ggX2_afterRound_X2_isWanted
set_option maxRecDepth 20000 in
theorem ggX2_afterRound_X2_dullAfterRound : GoodIn wsX2_afterRound wsX2_dullAfterRound := goodIn_r _ [19, 2, 1, 20, 21, 22, 23, 24, 25, 26, 27, 28, 29, 30, 31, 32, 33, 34, 35] (by decide +kernel) (by decide +kernel)
set_option maxRecDepth 20000 in
theorem gX2_afterRound_X2_dullAfterRound : GoodIn wsX2_afterRound (wsV RX2 130 RX2 yX2_dullAfterRound wsX2_dullAfterRound) := goodIn_app (goodIn_of _ (by decide +kernel)) ggX2_afterRound_X2_dullAfterRound
set_option maxRecDepth 20000 in
theorem ggX2_isWanted_J6_bitCount_0f7a4 : GoodIn wsX2_isWanted wsJ6_bitCount_0f7a4 := goodIn_r _ [5, 6, 7, 8] (by decide +kernel) (by decide +kernel)
set_option maxRecDepth 20000 in
theorem gX2_isWanted_J6_bitCount_0f7a4 : GoodIn wsX2_isWanted (va_wsS RX2 133 yJ6_bitCount_0f7a4 wsJ6_bitCount_0f7a4) := goodIn_app (goodIn_of _ (by decide +kernel)) ggX2_isWanted_J6_bitCount_0f7a4
set_option maxRecDepth 20000 in
theorem ggX2_markDecides_X2_isWanted : GoodIn wsX2_markDecides wsX2_isWanted := goodIn_r _ [7, 8, 9, 10, 11, 12, 13, 14, 15, 19, 20, 21, 22, 23, 24, 25, 26, 27, 28, 29, 30, 31, 32, 33] (by decide +kernel) (by decide +kernel)
set_option maxRecDepth 20000 in
theorem gX2_markDecides_X2_isWanted : GoodIn wsX2_markDecides (wsV RX2 113 RX2 yX2_isWanted wsX2_isWanted) := goodIn_app (goodIn_of _ (by decide +kernel)) ggX2_markDecides_X2_isWanted
set_option maxRecDepth 20000 in
theorem ggX2_markDecides_X2_withEditor : GoodIn wsX2_markDecides wsX2_withEditor := goodIn_r _ [18] (by decide +kernel) (by decide +kernel)
set_option maxRecDepth 20000 in
theorem gX2_markDecides_X2_withEditor : GoodIn wsX2_markDecides (va_wsS RX2 85 yX2_withEditor wsX2_withEditor) := goodIn_app (goodIn_of _ (by decide +kernel)) ggX2_markDecides_X2_withEditor
set_option maxRecDepth 20000 in
theorem ggX2_framesThatBecome_X2_afterRound : GoodIn wsX2_framesThatBecome wsX2_afterRound := goodIn_r _ [6, 7, 8, 9, 10, 11, 12, 13, 14, 15, 16, 17, 18, 19, 5, 20, 21, 22, 23, 24, 25, 26, 27, 28, 29, 30, 31, 32, 33, 34, 35, 36, 37, 38, 39, 40] (by decide +kernel) (by decide +kernel)
set_option maxRecDepth 20000 in
theorem gX2_framesThatBecome_X2_afterRound : GoodIn wsX2_framesThatBecome (wsV RX2 123 RX2 yX2_afterRound wsX2_afterRound) := goodIn_app (goodIn_of _ (by decide +kernel)) ggX2_framesThatBecome_X2_afterRound
set_option maxRecDepth 20000 in
theorem ggX2_longestRow_X2_isPicked : GoodIn wsX2_longestRow wsX2_isPicked := goodIn_r _ [9, 10, 11, 12, 13, 14, 15, 16, 17, 18, 19, 20, 21, 22, 23, 24, 25] (by decide +kernel) (by decide +kernel)
set_option maxRecDepth 20000 in
theorem gX2_longestRow_X2_isPicked : GoodIn wsX2_longestRow (wsV RX2 103 RX2 yX2_isPicked wsX2_isPicked) := goodIn_app (goodIn_of _ (by decide +kernel)) ggX2_longestRow_X2_isPicked
set_option maxRecDepth 20000 in
theorem ggX2_marksOf_X2_markOf : GoodIn wsX2_marksOf wsX2_markOf := goodIn_r _ [5, 6, 7, 8, 9, 10, 11, 12, 13, 14, 15, 16, 17, 18, 19, 20, 21, 22] (by decide +kernel) (by decide +kernel)
set_option maxRecDepth 20000 in
theorem gX2_marksOf_X2_markOf : GoodIn wsX2_marksOf (wsV RX2 77 RX2 yX2_markOf wsX2_markOf) := goodIn_app (goodIn_of _ (by decide +kernel)) ggX2_marksOf_X2_markOf
set_option maxRecDepth 20000 in
theorem ggX2_vetoesLeft_X2_marksOf : GoodIn wsX2_vetoesLeft wsX2_marksOf := goodIn_r _ [10, 11, 12, 13, 9, 14, 15, 16, 17, 18, 19, 20, 21, 22, 23, 24, 25, 26, 27, 28, 29, 30, 31] (by decide +kernel) (by decide +kernel)
set_option maxRecDepth 20000 in
theorem gX2_vetoesLeft_X2_marksOf : GoodIn wsX2_vetoesLeft (wsV RX2 100 RX2 yX2_marksOf wsX2_marksOf) := goodIn_app (goodIn_of _ (by decide +kernel)) ggX2_vetoesLeft_X2_marksOf
theorem dJ6_bitCount_0f7a4_0 : decode cJ6_bitCount_0f7a4 0 = .ok (.iload_n 0, 1) := by decide +kernel
theorem dJ6_bitCount_0f7a4_1 : decode cJ6_bitCount_0f7a4 1 = .ok (.iload_n 0, 1) := by decide +kernel
theorem dJ6_bitCount_0f7a4_2 : decode cJ6_bitCount_0f7a4 2 = .ok (.iconst 1, 1) := by decide +kernel
theorem dJ6_bitCount_0f7a4_3 : decode cJ6_bitCount_0f7a4 3 = .ok (.iushr, 1) := by decide +kernel
theorem dJ6_bitCount_0f7a4_4 : decode cJ6_bitCount_0f7a4 4 = .ok (.ldc_w 265, 3) := by decide +kernel
theorem dJ6_bitCount_0f7a4_7 : decode cJ6_bitCount_0f7a4 7 = .ok (.iand, 1) := by decide +kernel
theorem dJ6_bitCount_0f7a4_8 : decode cJ6_bitCount_0f7a4 8 = .ok (.isub, 1) := by decide +kernel
theorem dJ6_bitCount_0f7a4_9 : decode cJ6_bitCount_0f7a4 9 = .ok (.istore_n 0, 1) := by decide +kernel
theorem dJ6_bitCount_0f7a4_10 : decode cJ6_bitCount_0f7a4 10 = .ok (.iload_n 0, 1) := by decide +kernel
theorem dJ6_bitCount_0f7a4_11 : decode cJ6_bitCount_0f7a4 11 = .ok (.ldc_w 266, 3) := by decide +kernel
theorem dJ6_bitCount_0f7a4_14 : decode cJ6_bitCount_0f7a4 14 = .ok (.iand, 1) := by decide +kernel
theorem dJ6_bitCount_0f7a4_15 : decode cJ6_bitCount_0f7a4 15 = .ok (.iload_n 0, 1) := by decide +kernel
theorem dJ6_bitCount_0f7a4_16 : decode cJ6_bitCount_0f7a4 16 = .ok (.iconst 2, 1) := by decide +kernel
theorem dJ6_bitCount_0f7a4_17 : decode cJ6_bitCount_0f7a4 17 = .ok (.iushr, 1) := by decide +kernel
theorem dJ6_bitCount_0f7a4_18 : decode cJ6_bitCount_0f7a4 18 = .ok (.ldc_w 266, 3) := by decide +kernel
theorem dJ6_bitCount_0f7a4_21 : decode cJ6_bitCount_0f7a4 21 = .ok (.iand, 1) := by decide +kernel
theorem dJ6_bitCount_0f7a4_22 : decode cJ6_bitCount_0f7a4 22 = .ok (.iadd, 1) := by decide +kernel
theorem dJ6_bitCount_0f7a4_23 : decode cJ6_bitCount_0f7a4 23 = .ok (.istore_n 0, 1) := by decide +kernel
theorem dJ6_bitCount_0f7a4_24 : decode cJ6_bitCount_0f7a4 24 = .ok (.iload_n 0, 1) := by decide +kernel
theorem dJ6_bitCount_0f7a4_25 : decode cJ6_bitCount_0f7a4 25 = .ok (.iload_n 0, 1) := by decide +kernel
theorem dJ6_bitCount_0f7a4_26 : decode cJ6_bitCount_0f7a4 26 = .ok (.iconst 4, 1) := by decide +kernel
theorem dJ6_bitCount_0f7a4_27 : decode cJ6_bitCount_0f7a4 27 = .ok (.iushr, 1) := by decide +kernel
theorem dJ6_bitCount_0f7a4_28 : decode cJ6_bitCount_0f7a4 28 = .ok (.iadd, 1) := by decide +kernel
theorem dJ6_bitCount_0f7a4_29 : decode cJ6_bitCount_0f7a4 29 = .ok (.ldc_w 267, 3) := by decide +kernel
theorem dJ6_bitCount_0f7a4_32 : decode cJ6_bitCount_0f7a4 32 = .ok (.iand, 1) := by decide +kernel
theorem dJ6_bitCount_0f7a4_33 : decode cJ6_bitCount_0f7a4 33 = .ok (.istore_n 0, 1) := by decide +kernel
theorem dJ6_bitCount_0f7a4_34 : decode cJ6_bitCount_0f7a4 34 = .ok (.iload_n 0, 1) := by decide +kernel
theorem dJ6_bitCount_0f7a4_35 : decode cJ6_bitCount_0f7a4 35 = .ok (.iload_n 0, 1) := by decide +kernel
theorem dJ6_bitCount_0f7a4_36 : decode cJ6_bitCount_0f7a4 36 = .ok (.bipush 8, 2) := by decide +kernel
theorem dJ6_bitCount_0f7a4_38 : decode cJ6_bitCount_0f7a4 38 = .ok (.iushr, 1) := by decide +kernel
theorem dJ6_bitCount_0f7a4_39 : decode cJ6_bitCount_0f7a4 39 = .ok (.iadd, 1) := by decide +kernel
theorem dJ6_bitCount_0f7a4_40 : decode cJ6_bitCount_0f7a4 40 = .ok (.istore_n 0, 1) := by decide +kernel
theorem dJ6_bitCount_0f7a4_41 : decode cJ6_bitCount_0f7a4 41 = .ok (.iload_n 0, 1) := by decide +kernel
theorem dJ6_bitCount_0f7a4_42 : decode cJ6_bitCount_0f7a4 42 = .ok (.iload_n 0, 1) := by decide +kernel
theorem dJ6_bitCount_0f7a4_43 : decode cJ6_bitCount_0f7a4 43 = .ok (.bipush 16, 2) := by decide +kernel
theorem dJ6_bitCount_0f7a4_45 : decode cJ6_bitCount_0f7a4 45 = .ok (.iushr, 1) := by decide +kernel
theorem dJ6_bitCount_0f7a4_46 : decode cJ6_bitCount_0f7a4 46 = .ok (.iadd, 1) := by decide +kernel
theorem dJ6_bitCount_0f7a4_47 : decode cJ6_bitCount_0f7a4 47 = .ok (.istore_n 0, 1) := by decide +kernel
theorem dJ6_bitCount_0f7a4_48 : decode cJ6_bitCount_0f7a4 48 = .ok (.iload_n 0, 1) := by decide +kernel
theorem dJ6_bitCount_0f7a4_49 : decode cJ6_bitCount_0f7a4 49 = .ok (.bipush 63, 2) := by decide +kernel
theorem dJ6_bitCount_0f7a4_51 : decode cJ6_bitCount_0f7a4 51 = .ok (.iand, 1) := by decide +kernel
theorem dJ6_bitCount_0f7a4_52 : decode cJ6_bitCount_0f7a4 52 = .ok (.ireturn, 1) := by decide +kernel
theorem dJ9_max_7cf53_0 : decode cJ9_max_7cf53 0 = .ok (.iload_n 0, 1) := by decide +kernel
theorem dJ9_max_7cf53_1 : decode cJ9_max_7cf53 1 = .ok (.iload_n 1, 1) := by decide +kernel
theorem dJ9_max_7cf53_2 : decode cJ9_max_7cf53 2 = .ok (.if_icmp .lt 7, 3) := by decide +kernel
theorem dJ9_max_7cf53_5 : decode cJ9_max_7cf53 5 = .ok (.iload_n 0, 1) := by decide +kernel
theorem dJ9_max_7cf53_6 : decode cJ9_max_7cf53 6 = .ok (.goto 4, 3) := by decide +kernel
theorem dJ9_max_7cf53_9 : decode cJ9_max_7cf53 9 = .ok (.iload_n 1, 1) := by decide +kernel
theorem dJ9_max_7cf53_10 : decode cJ9_max_7cf53 10 = .ok (.ireturn, 1) := by decide +kernel
theorem dJ9_min_7cf53_0 : decode cJ9_min_7cf53 0 = .ok (.iload_n 0, 1) := by decide +kernel
theorem dJ9_min_7cf53_1 : decode cJ9_min_7cf53 1 = .ok (.iload_n 1, 1) := by decide +kernel
theorem dJ9_min_7cf53_2 : decode cJ9_min_7cf53 2 = .ok (.if_icmp .gt 7, 3) := by decide +kernel
theorem dJ9_min_7cf53_5 : decode cJ9_min_7cf53 5 = .ok (.iload_n 0, 1) := by decide +kernel
theorem dJ9_min_7cf53_6 : decode cJ9_min_7cf53 6 = .ok (.goto 4, 3) := by decide +kernel
theorem dJ9_min_7cf53_9 : decode cJ9_min_7cf53 9 = .ok (.iload_n 1, 1) := by decide +kernel
theorem dJ9_min_7cf53_10 : decode cJ9_min_7cf53 10 = .ok (.ireturn, 1) := by decide +kernel
