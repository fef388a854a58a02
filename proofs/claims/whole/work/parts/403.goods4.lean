set_option maxRecDepth 20000 in
theorem ggX3_lacking_X1_ableToTurnInto : GoodIn wsX3_lacking wsX1_ableToTurnInto := goodIn_r _ [15, 16, 17, 18, 19, 14, 20, 21, 22, 23, 24, 25, 26, 27, 28, 29, 30, 9, 6, 10, 38, 39, 40, 41, 42, 43] (by decide +kernel) (by decide +kernel)
set_option maxRecDepth 20000 in
theorem gX3_lacking_X1_ableToTurnInto : GoodIn wsX3_lacking (wsV RX3 108 RX1 yX1_ableToTurnInto wsX1_ableToTurnInto) := goodIn_app (goodIn_of _ (by decide +kernel)) ggX3_lacking_X1_ableToTurnInto
set_option maxRecDepth 20000 in
theorem ggX3_needed_X1_has : GoodIn wsX3_needed wsX1_has := goodIn_r _ [7, 8, 132, 133, 134, 135, 136, 137] (by decide +kernel) (by decide +kernel)
set_option maxRecDepth 20000 in
theorem gX3_needed_X1_has : GoodIn wsX3_needed (wsV RX3 54 RX1 yX1_has wsX1_has) := goodIn_app (goodIn_of _ (by decide +kernel)) ggX3_needed_X1_has
set_option maxRecDepth 20000 in
theorem ggX3_needed_X3_isSession : GoodIn wsX3_needed wsX3_isSession := goodIn_r _ [12] (by decide +kernel) (by decide +kernel)
set_option maxRecDepth 20000 in
theorem gX3_needed_X3_isSession : GoodIn wsX3_needed (va_wsS RX3 64 yX3_isSession wsX3_isSession) := goodIn_app (goodIn_of _ (by decide +kernel)) ggX3_needed_X3_isSession
set_option maxRecDepth 20000 in
theorem ggX3_needed_X3_searchTeams : GoodIn wsX3_needed wsX3_searchTeams := goodIn_r _ [16, 2, 17, 18, 19, 9, 10, 11, 12, 20, 21, 22, 23, 24, 25, 26, 27, 28, 29, 30, 31, 32, 33, 34, 35, 36, 37, 38, 39, 40, 41, 4, 5, 6, 7, 8, 42, 43, 44, 45, 46, 47, 48, 49, 50, 51, 52, 53, 54, 55, 56, 57, 58, 59, 60, 61, 62, 63, 64, 65, 66, 67, 68, 69, 70, 71, 72, 73, 74, 75, 76, 77, 78, 79, 80, 81, 82, 83, 84, 85, 86, 87, 88, 89, 90, 91, 92, 93, 94, 95, 96, 97, 98, 99, 100, 101, 102, 103, 104, 105, 106, 107, 108, 109, 111, 112, 113, 114, 115, 116, 117, 118, 119, 120, 121, 122, 123, 124, 125, 126, 127, 128, 129, 130, 131, 132, 133, 134, 135, 136, 137] (by decide +kernel) (by decide +kernel)
set_option maxRecDepth 20000 in
theorem gX3_needed_X3_searchTeams : GoodIn wsX3_needed (wsV RX3 67 RX3 yX3_searchTeams wsX3_searchTeams) := goodIn_app (goodIn_of _ (by decide +kernel)) ggX3_needed_X3_searchTeams
set_option maxRecDepth 20000 in
theorem ggX3_needed_X3_holds : GoodIn wsX3_needed wsX3_holds := goodIn_r _ [35] (by decide +kernel) (by decide +kernel)
set_option maxRecDepth 20000 in
theorem gX3_needed_X3_holds : GoodIn wsX3_needed (va_wsS RX3 104 yX3_holds wsX3_holds) := goodIn_app (goodIn_of _ (by decide +kernel)) ggX3_needed_X3_holds
set_option maxRecDepth 20000 in
theorem ggX3_speak_X3_isHalf : GoodIn wsX3_speak wsX3_isHalf := goodIn_r _ [5] (by decide +kernel) (by decide +kernel)
set_option maxRecDepth 20000 in
theorem gX3_speak_X3_isHalf : GoodIn wsX3_speak (va_wsS RX3 114 yX3_isHalf wsX3_isHalf) := goodIn_app (goodIn_of _ (by decide +kernel)) ggX3_speak_X3_isHalf
set_option maxRecDepth 20000 in
theorem ggX3_speak_X3_isTongue : GoodIn wsX3_speak wsX3_isTongue := goodIn_r _ [8] (by decide +kernel) (by decide +kernel)
set_option maxRecDepth 20000 in
theorem gX3_speak_X3_isTongue : GoodIn wsX3_speak (va_wsS RX3 117 yX3_isTongue wsX3_isTongue) := goodIn_app (goodIn_of _ (by decide +kernel)) ggX3_speak_X3_isTongue
set_option maxRecDepth 20000 in
theorem ggX3_speak_X0_setSpoken : GoodIn wsX3_speak wsX0_setSpoken := goodIn_r _ [13, 14, 15, 3, 4, 5, 23, 24, 25, 26, 27, 28] (by decide +kernel) (by decide +kernel)
set_option maxRecDepth 20000 in
theorem gX3_speak_X0_setSpoken : GoodIn wsX3_speak (wsV RX3 120 RX0 yX0_setSpoken wsX0_setSpoken) := goodIn_app (goodIn_of _ (by decide +kernel)) ggX3_speak_X0_setSpoken
set_option maxRecDepth 20000 in
theorem ggX3_silence_X3_isHalf : GoodIn wsX3_silence wsX3_isHalf := goodIn_r _ [5] (by decide +kernel) (by decide +kernel)
set_option maxRecDepth 20000 in
theorem gX3_silence_X3_isHalf : GoodIn wsX3_silence (va_wsS RX3 114 yX3_isHalf wsX3_isHalf) := goodIn_app (goodIn_of _ (by decide +kernel)) ggX3_silence_X3_isHalf
set_option maxRecDepth 20000 in
theorem ggX3_silence_X0_isSilent : GoodIn wsX3_silence wsX0_isSilent := goodIn_r _ [10, 11, 3, 4, 5, 28, 29, 30, 31, 32, 33] (by decide +kernel) (by decide +kernel)
set_option maxRecDepth 20000 in
theorem gX3_silence_X0_isSilent : GoodIn wsX3_silence (wsV RX3 124 RX0 yX0_isSilent wsX0_isSilent) := goodIn_app (goodIn_of _ (by decide +kernel)) ggX3_silence_X0_isSilent
set_option maxRecDepth 20000 in
theorem ggX3_silence_X0_setSilent : GoodIn wsX3_silence wsX0_setSilent := goodIn_r _ [15, 16, 17, 18, 9, 19, 11, 20, 3, 4, 5, 28, 29, 30, 31, 32, 33] (by decide +kernel) (by decide +kernel)
set_option maxRecDepth 20000 in
theorem gX3_silence_X0_setSilent : GoodIn wsX3_silence (wsV RX3 127 RX0 yX0_setSilent wsX0_setSilent) := goodIn_app (goodIn_of _ (by decide +kernel)) ggX3_silence_X0_setSilent
set_option maxRecDepth 20000 in
theorem ggX3_on_X3_isTongue : GoodIn wsX3_on wsX3_isTongue := goodIn_r _ [5] (by decide +kernel) (by decide +kernel)
set_option maxRecDepth 20000 in
theorem gX3_on_X3_isTongue : GoodIn wsX3_on (va_wsS RX3 117 yX3_isTongue wsX3_isTongue) := goodIn_app (goodIn_of _ (by decide +kernel)) ggX3_on_X3_isTongue
set_option maxRecDepth 20000 in
theorem ggX3_on_X3_isHalf : GoodIn wsX3_on wsX3_isHalf := goodIn_r _ [8] (by decide +kernel) (by decide +kernel)
set_option maxRecDepth 20000 in
theorem gX3_on_X3_isHalf : GoodIn wsX3_on (va_wsS RX3 114 yX3_isHalf wsX3_isHalf) := goodIn_app (goodIn_of _ (by decide +kernel)) ggX3_on_X3_isHalf
set_option maxRecDepth 20000 in
theorem ggX3_on_X0_playThrough : GoodIn wsX3_on wsX0_playThrough := goodIn_r _ [13, 14, 15, 16, 17, 18, 19, 20, 21, 12, 22, 23, 24, 25, 7, 4, 8, 26, 27, 28, 29, 30, 31, 32, 33, 34, 35, 36, 37, 38, 39, 40, 41, 42, 3, 5, 43, 44, 45, 46, 47, 48, 49, 50, 51, 52, 53, 54, 55, 56, 57, 58, 59, 60, 61, 62, 63, 64, 65, 66, 67, 68, 69, 70, 78, 79, 80, 81, 82, 83, 84, 85, 86, 87, 88, 89] (by decide +kernel) (by decide +kernel)
set_option maxRecDepth 20000 in
theorem gX3_on_X0_playThrough : GoodIn wsX3_on (wsV RX3 130 RX0 yX0_playThrough wsX0_playThrough) := goodIn_app (goodIn_of _ (by decide +kernel)) ggX3_on_X0_playThrough
set_option maxRecDepth 20000 in
theorem ggX3_heard_X3_isTongue : GoodIn wsX3_heard wsX3_isTongue := goodIn_r _ [5] (by decide +kernel) (by decide +kernel)
set_option maxRecDepth 20000 in
theorem gX3_heard_X3_isTongue : GoodIn wsX3_heard (va_wsS RX3 117 yX3_isTongue wsX3_isTongue) := goodIn_app (goodIn_of _ (by decide +kernel)) ggX3_heard_X3_isTongue
set_option maxRecDepth 20000 in
theorem ggX3_heard_X3_isHalf : GoodIn wsX3_heard wsX3_isHalf := goodIn_r _ [8] (by decide +kernel) (by decide +kernel)
set_option maxRecDepth 20000 in
theorem gX3_heard_X3_isHalf : GoodIn wsX3_heard (va_wsS RX3 114 yX3_isHalf wsX3_isHalf) := goodIn_app (goodIn_of _ (by decide +kernel)) ggX3_heard_X3_isHalf
set_option maxRecDepth 20000 in
theorem ggX3_heard_X0_playThrough : GoodIn wsX3_heard wsX0_playThrough := goodIn_r _ [13, 14, 15, 16, 17, 18, 19, 20, 21, 12, 22, 23, 24, 25, 7, 4, 8, 26, 27, 28, 29, 30, 31, 32, 33, 34, 35, 36, 37, 38, 39, 40, 41, 42, 3, 5, 43, 44, 45, 46, 47, 48, 49, 50, 51, 52, 53, 54, 55, 56, 57, 58, 59, 60, 61, 62, 63, 64, 65, 66, 67, 68, 69, 70, 78, 79, 80, 81, 82, 83, 84, 85, 86, 87, 88, 89] (by decide +kernel) (by decide +kernel)
set_option maxRecDepth 20000 in
theorem gX3_heard_X0_playThrough : GoodIn wsX3_heard (wsV RX3 130 RX0 yX0_playThrough wsX0_playThrough) := goodIn_app (goodIn_of _ (by decide +kernel)) ggX3_heard_X0_playThrough
set_option maxRecDepth 20000 in
theorem ggX3_tired_X1_has : GoodIn wsX3_tired wsX1_has := goodIn_r _ [7, 8, 85, 86, 87, 88, 89, 90] (by decide +kernel) (by decide +kernel)
set_option maxRecDepth 20000 in
theorem gX3_tired_X1_has : GoodIn wsX3_tired (wsV RX3 54 RX1 yX1_has wsX1_has) := goodIn_app (goodIn_of _ (by decide +kernel)) ggX3_tired_X1_has
set_option maxRecDepth 20000 in
theorem ggX3_tired_X3_isHalf : GoodIn wsX3_tired wsX3_isHalf := goodIn_r _ [12] (by decide +kernel) (by decide +kernel)
set_option maxRecDepth 20000 in
theorem gX3_tired_X3_isHalf : GoodIn wsX3_tired (va_wsS RX3 114 yX3_isHalf wsX3_isHalf) := goodIn_app (goodIn_of _ (by decide +kernel)) ggX3_tired_X3_isHalf
set_option maxRecDepth 20000 in
theorem ggX3_tired_X0_playThrough : GoodIn wsX3_tired wsX0_playThrough := goodIn_r _ [17, 18, 19, 20, 21, 22, 23, 24, 25, 16, 26, 27, 28, 29, 10, 11, 12, 30, 31, 32, 33, 34, 35, 36, 37, 38, 6, 39, 40, 41, 4, 5, 7, 8, 42, 43, 44, 45, 46, 47, 48, 49, 50, 51, 52, 53, 54, 55, 56, 57, 58, 59, 60, 61, 62, 63, 64, 65, 66, 67, 68, 69, 70, 71, 79, 80, 81, 82, 83, 84, 85, 86, 87, 88, 89, 90] (by decide +kernel) (by decide +kernel)
set_option maxRecDepth 20000 in
theorem gX3_tired_X0_playThrough : GoodIn wsX3_tired (wsV RX3 130 RX0 yX0_playThrough wsX0_playThrough) := goodIn_app (goodIn_of _ (by decide +kernel)) ggX3_tired_X0_playThrough
set_option maxRecDepth 20000 in
theorem ggX3_late_X3_isTongue : GoodIn wsX3_late wsX3_isTongue := goodIn_r _ [5] (by decide +kernel) (by decide +kernel)
set_option maxRecDepth 20000 in
theorem gX3_late_X3_isTongue : GoodIn wsX3_late (va_wsS RX3 117 yX3_isTongue wsX3_isTongue) := goodIn_app (goodIn_of _ (by decide +kernel)) ggX3_late_X3_isTongue
