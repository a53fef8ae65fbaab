set_option maxRecDepth 20000 in
theorem ggX3_init_X2_init : GoodIn wsX3_init wsX2_init := goodIn_r _ [21, 22, 2, 3, 23, 24, 25, 26, 27, 28, 29, 30, 31, 32, 33, 34, 35, 36, 37, 38, 59, 60, 61, 62, 63, 64, 65, 66, 67, 68, 69, 70, 71, 72, 73] (by decide +kernel) (by decide +kernel)
set_option maxRecDepth 20000 in
theorem gX3_init_X2_init : GoodIn wsX3_init (wsX2_init) := ggX3_init_X2_init
set_option maxRecDepth 20000 in
theorem ggX3_init_X0_init : GoodIn wsX3_init wsX0_init := goodIn_r _ [41, 42, 2, 3, 43, 44, 45, 5, 6, 46, 20, 21, 22, 23, 24, 25, 26, 27, 28, 29, 30, 31, 32, 33, 34, 35, 36, 37, 38, 79, 80, 59, 60, 61, 62, 63, 64, 65, 66, 67, 68, 69, 70, 71, 72, 73] (by decide +kernel) (by decide +kernel)
set_option maxRecDepth 20000 in
theorem gX3_init_X0_init : GoodIn wsX3_init (wsX0_init) := ggX3_init_X0_init
set_option maxRecDepth 20000 in
theorem ggX3_init_X1_init : GoodIn wsX3_init wsX1_init := goodIn_r _ [48, 49, 2, 3, 50, 51, 52, 53, 54, 55, 56, 57, 58, 81, 82, 83, 84, 85, 86, 87, 88] (by decide +kernel) (by decide +kernel)
set_option maxRecDepth 20000 in
theorem gX3_init_X1_init_n25 : GoodIn wsX3_init (wsX1_init) := ggX3_init_X1_init
set_option maxRecDepth 20000 in
theorem ggX3_set_X0_note : GoodIn wsX3_set wsX0_note := goodIn_r _ [7, 8, 9, 10, 11, 12, 13, 14, 15, 16, 17, 18, 19, 20, 21, 22, 23, 24, 25, 26, 27, 28, 29, 30, 31, 32, 33, 54, 55, 56, 57, 58, 59, 60, 61, 62, 63, 64, 65, 66, 67, 68, 69, 70] (by decide +kernel) (by decide +kernel)
set_option maxRecDepth 20000 in
theorem gX3_set_X0_note : GoodIn wsX3_set (wsV RX3 38 RX0 yX0_note wsX0_note) := goodIn_app (goodIn_of _ (by decide +kernel)) ggX3_set_X0_note
set_option maxRecDepth 20000 in
theorem ggX3_set_X2_changeSetting : GoodIn wsX3_set wsX2_changeSetting := goodIn_r _ [37, 15, 38, 39, 56, 57, 58, 59, 60, 61, 62, 63, 64, 65, 66, 67, 68, 69, 70] (by decide +kernel) (by decide +kernel)
set_option maxRecDepth 20000 in
theorem gX3_set_X2_changeSetting : GoodIn wsX3_set (wsV RX3 42 RX2 yX2_changeSetting wsX2_changeSetting) := goodIn_app (goodIn_of _ (by decide +kernel)) ggX3_set_X2_changeSetting
set_option maxRecDepth 20000 in
theorem ggX3_set_X3_recorded : GoodIn wsX3_set wsX3_recorded := goodIn_r _ [44, 1, 45, 46, 47, 6, 48, 9, 8, 49, 50, 51, 52, 53, 54, 55] (by decide +kernel) (by decide +kernel)
set_option maxRecDepth 20000 in
theorem gX3_set_X3_recorded : GoodIn wsX3_set (wsV RX3 46 RX3 yX3_recorded wsX3_recorded) := goodIn_app (goodIn_of _ (by decide +kernel)) ggX3_set_X3_recorded
set_option maxRecDepth 20000 in
theorem ggX3_mark_X0_note : GoodIn wsX3_mark wsX0_note := goodIn_r _ [7, 8, 9, 10, 11, 12, 13, 14, 15, 16, 17, 18, 19, 20, 21, 22, 23, 24, 25, 26, 27, 28, 29, 30, 31, 32, 33, 77, 78, 79, 80, 81, 82, 83, 84, 85, 86, 87, 88, 89, 90, 91, 92, 93] (by decide +kernel) (by decide +kernel)
set_option maxRecDepth 20000 in
theorem gX3_mark_X0_note : GoodIn wsX3_mark (wsV RX3 38 RX0 yX0_note wsX0_note) := goodIn_app (goodIn_of _ (by decide +kernel)) ggX3_mark_X0_note
set_option maxRecDepth 20000 in
theorem ggX3_mark_X2_putMark : GoodIn wsX3_mark wsX2_putMark := goodIn_r _ [37, 20, 21, 22, 38, 39, 13, 40, 41, 42, 43, 44, 45, 46, 47, 48, 49, 50, 51, 15, 52, 53, 54, 55, 56, 57, 58, 59, 60, 61, 62, 79, 80, 81, 82, 83, 84, 85, 86, 87, 88, 89, 90, 91, 92, 93] (by decide +kernel) (by decide +kernel)
set_option maxRecDepth 20000 in
theorem gX3_mark_X2_putMark : GoodIn wsX3_mark (wsV RX3 50 RX2 yX2_putMark wsX2_putMark) := goodIn_app (goodIn_of _ (by decide +kernel)) ggX3_mark_X2_putMark
set_option maxRecDepth 20000 in
theorem ggX3_mark_X3_recorded : GoodIn wsX3_mark wsX3_recorded := goodIn_r _ [67, 1, 68, 69, 70, 6, 71, 9, 8, 72, 73, 74, 75, 76, 77, 78] (by decide +kernel) (by decide +kernel)
set_option maxRecDepth 20000 in
theorem gX3_mark_X3_recorded : GoodIn wsX3_mark (wsV RX3 46 RX3 yX3_recorded wsX3_recorded) := goodIn_app (goodIn_of _ (by decide +kernel)) ggX3_mark_X3_recorded
set_option maxRecDepth 20000 in
theorem ggX3_argue_X0_note : GoodIn wsX3_argue wsX0_note := goodIn_r _ [7, 8, 9, 10, 11, 12, 13, 14, 15, 16, 17, 18, 19, 20, 21, 22, 23, 24, 25, 26, 27, 28, 29, 30, 31, 32, 33, 65, 66, 67, 68, 69, 70, 71, 72, 73, 74, 75, 76, 77, 78, 79, 80, 81] (by decide +kernel) (by decide +kernel)
set_option maxRecDepth 20000 in
theorem gX3_argue_X0_note : GoodIn wsX3_argue (wsV RX3 38 RX0 yX0_note wsX0_note) := goodIn_app (goodIn_of _ (by decide +kernel)) ggX3_argue_X0_note
set_option maxRecDepth 20000 in
theorem ggX3_argue_X2_argueAgainst : GoodIn wsX3_argue wsX2_argueAgainst := goodIn_r _ [37, 15, 26, 27, 22, 28, 38, 39, 13, 40, 41, 42, 43, 44, 45, 46, 47, 21, 48, 49, 50, 67, 68, 69, 70, 71, 72, 73, 74, 75, 76, 77, 78, 79, 80, 81] (by decide +kernel) (by decide +kernel)
set_option maxRecDepth 20000 in
theorem gX3_argue_X2_argueAgainst : GoodIn wsX3_argue (wsV RX3 54 RX2 yX2_argueAgainst wsX2_argueAgainst) := goodIn_app (goodIn_of _ (by decide +kernel)) ggX3_argue_X2_argueAgainst
set_option maxRecDepth 20000 in
theorem ggX3_argue_X3_recorded : GoodIn wsX3_argue wsX3_recorded := goodIn_r _ [55, 1, 56, 57, 58, 6, 59, 9, 8, 60, 61, 62, 63, 64, 65, 66] (by decide +kernel) (by decide +kernel)
set_option maxRecDepth 20000 in
theorem gX3_argue_X3_recorded : GoodIn wsX3_argue (wsV RX3 46 RX3 yX3_recorded wsX3_recorded) := goodIn_app (goodIn_of _ (by decide +kernel)) ggX3_argue_X3_recorded
set_option maxRecDepth 20000 in
theorem ggX3_round_X0_note : GoodIn wsX3_round wsX0_note := goodIn_r _ [7, 8, 9, 10, 11, 12, 13, 14, 15, 16, 17, 18, 19, 20, 21, 22, 23, 24, 25, 26, 27, 28, 29, 30, 31, 32, 33, 87, 88, 89, 90, 91, 92, 93, 94, 95, 96, 97, 98, 99, 100, 101, 102, 103] (by decide +kernel) (by decide +kernel)
set_option maxRecDepth 20000 in
theorem gX3_round_X0_note : GoodIn wsX3_round (wsV RX3 38 RX0 yX0_note wsX0_note) := goodIn_app (goodIn_of _ (by decide +kernel)) ggX3_round_X0_note
set_option maxRecDepth 20000 in
theorem ggX3_round_X2_endRound : GoodIn wsX3_round wsX2_endRound := goodIn_r _ [37, 31, 20, 26, 38, 39, 40, 41, 42, 43, 44, 13, 45, 23, 21, 22, 46, 47, 48, 49, 15, 50, 51, 52, 53, 54, 55, 56, 57, 58, 59, 60, 61, 62, 63, 64, 65, 66, 67, 68, 24, 25, 29, 69, 70, 71, 72, 89, 90, 91, 92, 93, 94, 95, 96, 97, 98, 99, 100, 101, 102, 103] (by decide +kernel) (by decide +kernel)
set_option maxRecDepth 20000 in
theorem gX3_round_X2_endRound : GoodIn wsX3_round (wsV RX3 57 RX2 yX2_endRound wsX2_endRound) := goodIn_app (goodIn_of _ (by decide +kernel)) ggX3_round_X2_endRound
set_option maxRecDepth 20000 in
theorem ggX3_round_X3_recorded : GoodIn wsX3_round wsX3_recorded := goodIn_r _ [77, 1, 78, 79, 80, 6, 81, 9, 8, 82, 83, 84, 85, 86, 87, 88] (by decide +kernel) (by decide +kernel)
set_option maxRecDepth 20000 in
theorem gX3_round_X3_recorded : GoodIn wsX3_round (wsV RX3 46 RX3 yX3_recorded wsX3_recorded) := goodIn_app (goodIn_of _ (by decide +kernel)) ggX3_round_X3_recorded
set_option maxRecDepth 20000 in
theorem ggX3_print_X0_note : GoodIn wsX3_print wsX0_note := goodIn_r _ [7, 8, 9, 10, 11, 12, 13, 14, 15, 16, 17, 18, 19, 20, 21, 22, 23, 24, 25, 26, 27, 28, 29, 30, 31, 32, 33, 58, 59, 60, 61, 62, 63, 64, 65, 66, 67, 68, 69, 70, 71, 72, 73, 74] (by decide +kernel) (by decide +kernel)
set_option maxRecDepth 20000 in
theorem gX3_print_X0_note : GoodIn wsX3_print (wsV RX3 38 RX0 yX0_note wsX0_note) := goodIn_app (goodIn_of _ (by decide +kernel)) ggX3_print_X0_note
set_option maxRecDepth 20000 in
theorem ggX3_print_X2_printFrame : GoodIn wsX3_print wsX2_printFrame := goodIn_r _ [37, 20, 24, 32, 30, 33, 38, 39, 13, 40, 41, 42, 43, 60, 61, 62, 63, 64, 65, 66, 67, 68, 69, 70, 71, 72, 73, 74] (by decide +kernel) (by decide +kernel)
set_option maxRecDepth 20000 in
theorem gX3_print_X2_printFrame : GoodIn wsX3_print (wsV RX3 61 RX2 yX2_printFrame wsX2_printFrame) := goodIn_app (goodIn_of _ (by decide +kernel)) ggX3_print_X2_printFrame
set_option maxRecDepth 20000 in
theorem ggX3_print_X3_recorded : GoodIn wsX3_print wsX3_recorded := goodIn_r _ [48, 1, 49, 50, 51, 6, 52, 9, 8, 53, 54, 55, 56, 57, 58, 59] (by decide +kernel) (by decide +kernel)
set_option maxRecDepth 20000 in
theorem gX3_print_X3_recorded : GoodIn wsX3_print (wsV RX3 46 RX3 yX3_recorded wsX3_recorded) := goodIn_app (goodIn_of _ (by decide +kernel)) ggX3_print_X3_recorded
set_option maxRecDepth 20000 in
theorem ggX3_buy_X0_note : GoodIn wsX3_buy wsX0_note := goodIn_r _ [7, 8, 9, 10, 11, 12, 13, 14, 15, 16, 17, 18, 19, 20, 21, 22, 23, 24, 25, 26, 27, 28, 29, 30, 31, 32, 33, 56, 57, 58, 59, 60, 61, 62, 63, 64, 65, 66, 67, 68, 69, 70, 71, 72] (by decide +kernel) (by decide +kernel)
set_option maxRecDepth 20000 in
theorem gX3_buy_X0_note : GoodIn wsX3_buy (wsV RX3 38 RX0 yX0_note wsX0_note) := goodIn_app (goodIn_of _ (by decide +kernel)) ggX3_buy_X0_note
set_option maxRecDepth 20000 in
theorem ggX3_buy_X2_addPaper : GoodIn wsX3_buy wsX2_addPaper := goodIn_r _ [37, 32, 38, 39, 40, 41, 58, 59, 60, 61, 62, 63, 64, 65, 66, 67, 68, 69, 70, 71, 72] (by decide +kernel) (by decide +kernel)
set_option maxRecDepth 20000 in
theorem gX3_buy_X2_addPaper : GoodIn wsX3_buy (wsV RX3 64 RX2 yX2_addPaper wsX2_addPaper) := goodIn_app (goodIn_of _ (by decide +kernel)) ggX3_buy_X2_addPaper
set_option maxRecDepth 20000 in
theorem ggX3_buy_X3_recorded : GoodIn wsX3_buy wsX3_recorded := goodIn_r _ [46, 1, 47, 48, 49, 6, 50, 9, 8, 51, 52, 53, 54, 55, 56, 57] (by decide +kernel) (by decide +kernel)
set_option maxRecDepth 20000 in
theorem gX3_buy_X3_recorded : GoodIn wsX3_buy (wsV RX3 46 RX3 yX3_recorded wsX3_recorded) := goodIn_app (goodIn_of _ (by decide +kernel)) ggX3_buy_X3_recorded
set_option maxRecDepth 20000 in
theorem ggX3_reopen_X0_note : GoodIn wsX3_reopen wsX0_note := goodIn_r _ [7, 8, 9, 10, 11, 12, 13, 14, 15, 16, 17, 18, 19, 20, 21, 22, 23, 24, 25, 26, 27, 28, 29, 30, 31, 32, 33, 55, 56, 57, 58, 59, 60, 61, 62, 63, 64, 65, 66, 67, 68, 69, 70, 71] (by decide +kernel) (by decide +kernel)
set_option maxRecDepth 20000 in
theorem gX3_reopen_X0_note : GoodIn wsX3_reopen (wsV RX3 38 RX0 yX0_note wsX0_note) := goodIn_app (goodIn_of _ (by decide +kernel)) ggX3_reopen_X0_note
set_option maxRecDepth 20000 in
theorem ggX3_reopen_X2_openAgain : GoodIn wsX3_reopen wsX2_openAgain := goodIn_r _ [37, 20, 23, 24, 38, 39, 13, 40, 57, 58, 59, 60, 61, 62, 63, 64, 65, 66, 67, 68, 69, 70, 71] (by decide +kernel) (by decide +kernel)
set_option maxRecDepth 20000 in
theorem gX3_reopen_X2_openAgain : GoodIn wsX3_reopen (wsV RX3 67 RX2 yX2_openAgain wsX2_openAgain) := goodIn_app (goodIn_of _ (by decide +kernel)) ggX3_reopen_X2_openAgain
set_option maxRecDepth 20000 in
theorem ggX3_reopen_X3_recorded : GoodIn wsX3_reopen wsX3_recorded := goodIn_r _ [45, 1, 46, 47, 48, 6, 49, 9, 8, 50, 51, 52, 53, 54, 55, 56] (by decide +kernel) (by decide +kernel)
set_option maxRecDepth 20000 in
theorem gX3_reopen_X3_recorded : GoodIn wsX3_reopen (wsV RX3 46 RX3 yX3_recorded wsX3_recorded) := goodIn_app (goodIn_of _ (by decide +kernel)) ggX3_reopen_X3_recorded
set_option maxRecDepth 20000 in
theorem ggX3_of_X2_aboutFrame : GoodIn wsX3_of wsX2_aboutFrame := goodIn_r _ [6, 7, 8, 9, 10, 11, 12, 13, 14, 5, 15, 21, 22, 23, 24, 25, 26, 27, 28, 29, 30, 31, 32, 33, 34, 35] (by decide +kernel) (by decide +kernel)
set_option maxRecDepth 20000 in
theorem gX3_of_X2_aboutFrame : GoodIn wsX3_of (wsV RX3 70 RX2 yX2_aboutFrame wsX2_aboutFrame) := goodIn_app (goodIn_of _ (by decide +kernel)) ggX3_of_X2_aboutFrame
set_option maxRecDepth 20000 in
theorem ggX3_editor_X2_aboutEditor : GoodIn wsX3_editor wsX2_aboutEditor := goodIn_r _ [6, 7, 8, 9, 10, 11, 12, 5, 13, 14, 15, 16, 17, 18, 19, 20, 21, 22, 23, 24, 25, 26, 27, 28, 29, 30, 31, 32, 38, 39, 40, 41, 42, 43, 44, 45, 46, 47, 48, 49, 50, 51, 52] (by decide +kernel) (by decide +kernel)
set_option maxRecDepth 20000 in
theorem gX3_editor_X2_aboutEditor : GoodIn wsX3_editor (wsV RX3 73 RX2 yX2_aboutEditor wsX2_aboutEditor) := goodIn_app (goodIn_of _ (by decide +kernel)) ggX3_editor_X2_aboutEditor
set_option maxRecDepth 20000 in
theorem ggX3_chosen_X2_chosenAt : GoodIn wsX3_chosen wsX2_chosenAt := goodIn_r _ [6, 7, 8, 9, 10, 11, 5, 12, 13, 19, 20, 21, 22, 23, 24, 25, 26, 27, 28, 29, 30, 31, 32, 33] (by decide +kernel) (by decide +kernel)
set_option maxRecDepth 20000 in
theorem gX3_chosen_X2_chosenAt : GoodIn wsX3_chosen (wsV RX3 76 RX2 yX2_chosenAt wsX2_chosenAt) := goodIn_app (goodIn_of _ (by decide +kernel)) ggX3_chosen_X2_chosenAt
set_option maxRecDepth 20000 in
theorem ggX3_count_X2_numberOf : GoodIn wsX3_count wsX2_numberOf := goodIn_r _ [8, 9, 10, 11, 12, 13, 14, 15, 16, 7, 17, 18, 19, 20, 21, 22, 23, 24, 25, 26, 27, 28, 29, 30, 46, 47, 48, 49, 50, 51, 52, 53, 54, 55, 56, 57, 58, 59, 60] (by decide +kernel) (by decide +kernel)
set_option maxRecDepth 20000 in
theorem gX3_count_X2_numberOf : GoodIn wsX3_count (wsV RX3 86 RX2 yX2_numberOf wsX2_numberOf) := goodIn_app (goodIn_of _ (by decide +kernel)) ggX3_count_X2_numberOf
set_option maxRecDepth 20000 in
theorem ggX3_why_X2_whyNotChosen : GoodIn wsX3_why wsX2_whyNotChosen := goodIn_r _ [6, 7, 8, 9, 10, 11, 5, 12, 13, 14, 15, 16, 17, 18, 19, 20, 21, 22, 23, 24, 30, 31, 32, 33, 34, 35, 36, 37, 38, 39, 40, 41, 42, 43, 44] (by decide +kernel) (by decide +kernel)
set_option maxRecDepth 20000 in
theorem gX3_why_X2_whyNotChosen : GoodIn wsX3_why (wsV RX3 89 RX2 yX2_whyNotChosen wsX2_whyNotChosen) := goodIn_app (goodIn_of _ (by decide +kernel)) ggX3_why_X2_whyNotChosen
set_option maxRecDepth 20000 in
theorem ggX3_ifRound_X2_roundWouldBring : GoodIn wsX3_ifRound wsX2_roundWouldBring := goodIn_r _ [6, 7, 8, 9, 5, 10, 11, 12, 13, 14, 15, 16, 17, 18, 19, 20, 21, 22, 23, 24, 25, 26, 27, 28, 29, 30, 31, 32, 33, 34, 40, 41, 42, 43, 44, 45, 46, 47, 48, 49, 50, 51, 52, 53, 54] (by decide +kernel) (by decide +kernel)
set_option maxRecDepth 20000 in
theorem gX3_ifRound_X2_roundWouldBring : GoodIn wsX3_ifRound (wsV RX3 92 RX2 yX2_roundWouldBring wsX2_roundWouldBring) := goodIn_app (goodIn_of _ (by decide +kernel)) ggX3_ifRound_X2_roundWouldBring
set_option maxRecDepth 20000 in
theorem ggX3_decides_X2_deciders : GoodIn wsX3_decides wsX2_deciders := goodIn_r _ [6, 7, 8, 9, 5, 10, 11, 12, 13, 14, 15, 16, 17, 18, 19, 20, 21, 22, 23, 24, 25, 26, 27, 28, 29, 30, 31, 37, 38, 39, 40, 41, 42, 43, 44, 45, 46, 47, 48, 49, 50, 51] (by decide +kernel) (by decide +kernel)
set_option maxRecDepth 20000 in
theorem gX3_decides_X2_deciders : GoodIn wsX3_decides (wsV RX3 95 RX2 yX2_deciders wsX2_deciders) := goodIn_app (goodIn_of _ (by decide +kernel)) ggX3_decides_X2_deciders
set_option maxRecDepth 20000 in
theorem ggX3_agree_X2_agreement : GoodIn wsX3_agree wsX2_agreement := goodIn_r _ [6, 7, 8, 5, 9, 10, 11, 12, 13, 14, 15, 21, 22, 23, 24, 25, 26, 27, 28, 29, 30, 31, 32, 33, 34, 35] (by decide +kernel) (by decide +kernel)
set_option maxRecDepth 20000 in
theorem gX3_agree_X2_agreement : GoodIn wsX3_agree (wsV RX3 98 RX2 yX2_agreement wsX2_agreement) := goodIn_app (goodIn_of _ (by decide +kernel)) ggX3_agree_X2_agreement
set_option maxRecDepth 20000 in
theorem ggX3_paperFor_X2_paperForChosen : GoodIn wsX3_paperFor wsX2_paperForChosen := goodIn_r _ [6, 7, 8, 9, 10, 5, 11, 17, 18, 19, 20, 21, 22, 23, 24, 25, 26, 27, 28, 29, 30, 31] (by decide +kernel) (by decide +kernel)
set_option maxRecDepth 20000 in
theorem gX3_paperFor_X2_paperForChosen : GoodIn wsX3_paperFor (wsV RX3 101 RX2 yX2_paperForChosen wsX2_paperForChosen) := goodIn_app (goodIn_of _ (by decide +kernel)) ggX3_paperFor_X2_paperForChosen
set_option maxRecDepth 20000 in
theorem ggX3_undo_X0_bringBack : GoodIn wsX3_undo wsX0_bringBack := goodIn_r _ [7, 8, 9, 10, 11, 12, 13, 14, 15, 16, 17, 18, 19, 20, 21, 22, 23, 24, 25, 26, 27, 28, 29, 30, 31, 32, 33, 39, 40, 41, 42, 43, 44, 45, 46, 47, 48, 49, 50, 51, 52, 53, 54, 55] (by decide +kernel) (by decide +kernel)
set_option maxRecDepth 20000 in
theorem gX3_undo_X0_bringBack : GoodIn wsX3_undo (wsV RX3 117 RX0 yX0_bringBack wsX0_bringBack) := goodIn_app (goodIn_of _ (by decide +kernel)) ggX3_undo_X0_bringBack
set_option maxRecDepth 20000 in
theorem ggX3_recorded_X0_keep : GoodIn wsX3_recorded wsX0_keep := goodIn_r _ [6, 7, 8, 14, 15] (by decide +kernel) (by decide +kernel)
set_option maxRecDepth 20000 in
theorem gX3_recorded_X0_keep : GoodIn wsX3_recorded (wsV RX3 130 RX0 yX0_keep wsX0_keep) := goodIn_app (goodIn_of _ (by decide +kernel)) ggX3_recorded_X0_keep
