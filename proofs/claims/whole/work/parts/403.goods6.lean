set_option maxRecDepth 20000 in
theorem ggX4_findTeams_X4_isTeam : GoodIn wsX4_findTeams wsX4_isTeam := goodIn_r _ [16, 5, 6, 17, 18, 19, 20, 21, 22, 15, 23, 34, 35, 36, 37, 38, 39, 40, 41, 42, 43, 44, 45, 46, 47, 48, 49, 50, 51, 52, 53, 54, 55, 56, 57, 58] (by decide +kernel) (by decide +kernel)
set_option maxRecDepth 20000 in
theorem gX4_findTeams_X4_isTeam : GoodIn wsX4_findTeams (wsV RX4 99 RX4 yX4_isTeam wsX4_isTeam) := goodIn_app (goodIn_of _ (by decide +kernel)) ggX4_findTeams_X4_isTeam
set_option maxRecDepth 20000 in
theorem ggX4_findTeams_X4_isWhole : GoodIn wsX4_findTeams wsX4_isWhole := goodIn_r _ [27, 28, 17, 21, 22, 15, 23, 29, 30, 31, 32, 5, 6, 33, 34, 35, 36, 37, 38, 39, 40, 41, 42, 43, 44, 45, 46, 47, 48, 49, 50, 51, 52, 53, 54, 55, 56, 57, 58] (by decide +kernel) (by decide +kernel)
set_option maxRecDepth 20000 in
theorem gX4_findTeams_X4_isWhole : GoodIn wsX4_findTeams (wsV RX4 102 RX4 yX4_isWhole wsX4_isWhole) := goodIn_app (goodIn_of _ (by decide +kernel)) ggX4_findTeams_X4_isWhole
set_option maxRecDepth 20000 in
theorem ggX4_whole_X4_isSession : GoodIn wsX4_whole wsX4_isSession := goodIn_r _ [5, 6, 7, 4, 8] (by decide +kernel) (by decide +kernel)
set_option maxRecDepth 20000 in
theorem gX4_whole_X4_isSession : GoodIn wsX4_whole (va_wsS RX4 77 yX4_isSession wsX4_isSession) := goodIn_app (goodIn_of _ (by decide +kernel)) ggX4_whole_X4_isSession
set_option maxRecDepth 20000 in
theorem ggX4_whole_X4_findTeams : GoodIn wsX4_whole wsX4_findTeams := goodIn_r _ [12, 1, 13, 14, 15, 16, 17, 18, 19, 20, 21, 22, 23, 24, 25, 4, 26, 27, 28, 29, 30, 31, 32, 33, 34, 35, 36, 37, 38, 39, 40, 41, 42, 43, 44, 45, 46, 47, 48, 49, 50, 51, 52, 53, 54, 55, 56, 57, 58, 59, 60, 61, 62, 63, 64, 65, 66, 67, 68] (by decide +kernel) (by decide +kernel)
set_option maxRecDepth 20000 in
theorem gX4_whole_X4_findTeams : GoodIn wsX4_whole (wsV RX4 108 RX4 yX4_findTeams wsX4_findTeams) := goodIn_app (goodIn_of _ (by decide +kernel)) ggX4_whole_X4_findTeams
set_option maxRecDepth 20000 in
theorem ggX4_cheapest_X4_isSession : GoodIn wsX4_cheapest wsX4_isSession := goodIn_r _ [5, 6, 7, 4, 8] (by decide +kernel) (by decide +kernel)
set_option maxRecDepth 20000 in
theorem gX4_cheapest_X4_isSession : GoodIn wsX4_cheapest (va_wsS RX4 77 yX4_isSession wsX4_isSession) := goodIn_app (goodIn_of _ (by decide +kernel)) ggX4_cheapest_X4_isSession
set_option maxRecDepth 20000 in
theorem ggX4_cheapest_X4_findTeams : GoodIn wsX4_cheapest wsX4_findTeams := goodIn_r _ [12, 13, 1, 14, 15, 16, 17, 18, 19, 20, 21, 22, 23, 24, 25, 4, 26, 27, 28, 29, 30, 31, 32, 33, 34, 35, 36, 37, 38, 39, 40, 41, 42, 43, 44, 45, 46, 47, 48, 49, 50, 51, 52, 53, 54, 55, 56, 57, 58, 59, 60, 61, 62, 63, 64, 65, 66, 67, 68] (by decide +kernel) (by decide +kernel)
set_option maxRecDepth 20000 in
theorem gX4_cheapest_X4_findTeams : GoodIn wsX4_cheapest (wsV RX4 108 RX4 yX4_findTeams wsX4_findTeams) := goodIn_app (goodIn_of _ (by decide +kernel)) ggX4_cheapest_X4_findTeams
set_option maxRecDepth 20000 in
theorem ggX4_nearest_X4_isSession : GoodIn wsX4_nearest wsX4_isSession := goodIn_r _ [5, 6, 7, 4, 8] (by decide +kernel) (by decide +kernel)
set_option maxRecDepth 20000 in
theorem gX4_nearest_X4_isSession : GoodIn wsX4_nearest (va_wsS RX4 77 yX4_isSession wsX4_isSession) := goodIn_app (goodIn_of _ (by decide +kernel)) ggX4_nearest_X4_isSession
set_option maxRecDepth 20000 in
theorem ggX4_nearest_X4_findTeams : GoodIn wsX4_nearest wsX4_findTeams := goodIn_r _ [12, 13, 14, 1, 15, 16, 17, 18, 19, 20, 21, 22, 23, 24, 25, 4, 26, 27, 28, 29, 30, 31, 32, 33, 34, 35, 36, 37, 38, 39, 40, 41, 42, 43, 44, 45, 46, 47, 48, 49, 50, 51, 52, 53, 54, 55, 56, 57, 58, 59, 60, 61, 62, 63, 64, 65, 66, 67, 68] (by decide +kernel) (by decide +kernel)
set_option maxRecDepth 20000 in
theorem gX4_nearest_X4_findTeams : GoodIn wsX4_nearest (wsV RX4 108 RX4 yX4_findTeams wsX4_findTeams) := goodIn_app (goodIn_of _ (by decide +kernel)) ggX4_nearest_X4_findTeams
set_option maxRecDepth 20000 in
theorem ggX4_take_X4_isSession : GoodIn wsX4_take wsX4_isSession := goodIn_r _ [11, 12, 13, 10, 14] (by decide +kernel) (by decide +kernel)
set_option maxRecDepth 20000 in
theorem gX4_take_X4_isSession : GoodIn wsX4_take (va_wsS RX4 77 yX4_isSession wsX4_isSession) := goodIn_app (goodIn_of _ (by decide +kernel)) ggX4_take_X4_isSession
set_option maxRecDepth 20000 in
theorem ggX4_take_X4_in : GoodIn wsX4_take wsX4_in := goodIn_r _ [14] (by decide +kernel) (by decide +kernel)
set_option maxRecDepth 20000 in
theorem gX4_take_X4_in : GoodIn wsX4_take (va_wsS RX4 69 yX4_in wsX4_in) := goodIn_app (goodIn_of _ (by decide +kernel)) ggX4_take_X4_in
set_option maxRecDepth 20000 in
theorem ggX4_take_X4_findTeams : GoodIn wsX4_take wsX4_findTeams := goodIn_r _ [18, 1, 6, 19, 20, 2, 21, 22, 3, 7, 4, 5, 23, 24, 25, 10, 26, 27, 28, 29, 30, 31, 32, 33, 34, 35, 36, 37, 38, 39, 40, 41, 42, 43, 44, 45, 46, 47, 48, 49, 50, 51, 52, 53, 54, 55, 56, 57, 58, 59, 60, 61, 62, 63, 64, 65, 66, 67, 68] (by decide +kernel) (by decide +kernel)
set_option maxRecDepth 20000 in
theorem gX4_take_X4_findTeams : GoodIn wsX4_take (wsV RX4 108 RX4 yX4_findTeams wsX4_findTeams) := goodIn_app (goodIn_of _ (by decide +kernel)) ggX4_take_X4_findTeams
set_option maxRecDepth 20000 in
theorem ggX4_leave_X4_seated : GoodIn wsX4_leave wsX4_seated := goodIn_r _ [6, 7, 1, 8, 9, 10, 11, 12, 13, 14, 15, 16, 17, 18, 19, 20, 21, 22, 23, 24, 25, 26, 27, 28, 29, 30, 31, 32] (by decide +kernel) (by decide +kernel)
set_option maxRecDepth 20000 in
theorem gX4_leave_X4_seated : GoodIn wsX4_leave (wsV RX4 112 RX4 yX4_seated wsX4_seated) := goodIn_app (goodIn_of _ (by decide +kernel)) ggX4_leave_X4_seated
set_option maxRecDepth 20000 in
theorem ggX4_booth_X4_isPerson : GoodIn wsX4_booth wsX4_isPerson := goodIn_r _ [6, 7, 8, 9, 5, 10, 11, 12, 13, 14, 15, 16, 17, 18, 19, 20, 21, 22, 23, 24, 25, 26, 27, 28, 29, 30, 31, 32, 33, 34, 35] (by decide +kernel) (by decide +kernel)
set_option maxRecDepth 20000 in
theorem gX4_booth_X4_isPerson : GoodIn wsX4_booth (wsV RX4 73 RX4 yX4_isPerson wsX4_isPerson) := goodIn_app (goodIn_of _ (by decide +kernel)) ggX4_booth_X4_isPerson
set_option maxRecDepth 20000 in
theorem ggX4_lacking_X4_isSession : GoodIn wsX4_lacking wsX4_isSession := goodIn_r _ [9, 10, 11, 8, 12] (by decide +kernel) (by decide +kernel)
set_option maxRecDepth 20000 in
theorem gX4_lacking_X4_isSession : GoodIn wsX4_lacking (va_wsS RX4 77 yX4_isSession wsX4_isSession) := goodIn_app (goodIn_of _ (by decide +kernel)) ggX4_lacking_X4_isSession
set_option maxRecDepth 20000 in
theorem ggX4_lacking_X4_has : GoodIn wsX4_lacking wsX4_has := goodIn_r _ [15] (by decide +kernel) (by decide +kernel)
set_option maxRecDepth 20000 in
theorem gX4_lacking_X4_has : GoodIn wsX4_lacking (va_wsS RX4 80 yX4_has wsX4_has) := goodIn_app (goodIn_of _ (by decide +kernel)) ggX4_lacking_X4_has
set_option maxRecDepth 20000 in
theorem ggX4_needed_X4_isPerson : GoodIn wsX4_needed wsX4_isPerson := goodIn_r _ [7, 8, 9, 10, 6, 11, 48, 49, 50, 51, 52, 53, 54, 55, 56, 57, 58, 59, 60, 61, 62, 63, 64, 65, 66, 67, 68, 69, 70, 71, 72] (by decide +kernel) (by decide +kernel)
set_option maxRecDepth 20000 in
theorem gX4_needed_X4_isPerson : GoodIn wsX4_needed (wsV RX4 73 RX4 yX4_isPerson wsX4_isPerson) := goodIn_app (goodIn_of _ (by decide +kernel)) ggX4_needed_X4_isPerson
set_option maxRecDepth 20000 in
theorem ggX4_needed_X4_isSession : GoodIn wsX4_needed wsX4_isSession := goodIn_r _ [14, 9, 10, 6, 11] (by decide +kernel) (by decide +kernel)
set_option maxRecDepth 20000 in
theorem gX4_needed_X4_isSession : GoodIn wsX4_needed (va_wsS RX4 77 yX4_isSession wsX4_isSession) := goodIn_app (goodIn_of _ (by decide +kernel)) ggX4_needed_X4_isSession
set_option maxRecDepth 20000 in
theorem ggX4_needed_X4_findTeams : GoodIn wsX4_needed wsX4_findTeams := goodIn_r _ [18, 1, 19, 20, 2, 8, 21, 22, 23, 24, 25, 26, 27, 28, 29, 6, 30, 31, 32, 33, 34, 35, 36, 37, 38, 39, 40, 41, 42, 43, 44, 45, 46, 47, 48, 49, 50, 51, 52, 53, 54, 55, 56, 57, 58, 59, 60, 61, 62, 63, 64, 65, 66, 67, 68, 69, 70, 71, 72] (by decide +kernel) (by decide +kernel)
set_option maxRecDepth 20000 in
theorem gX4_needed_X4_findTeams : GoodIn wsX4_needed (wsV RX4 108 RX4 yX4_findTeams wsX4_findTeams) := goodIn_app (goodIn_of _ (by decide +kernel)) ggX4_needed_X4_findTeams
set_option maxRecDepth 20000 in
theorem ggX4_needed_X4_has : GoodIn wsX4_needed wsX4_has := goodIn_r _ [37] (by decide +kernel) (by decide +kernel)
set_option maxRecDepth 20000 in
theorem gX4_needed_X4_has : GoodIn wsX4_needed (va_wsS RX4 80 yX4_has wsX4_has) := goodIn_app (goodIn_of _ (by decide +kernel)) ggX4_needed_X4_has
set_option maxRecDepth 20000 in
theorem ggX4_speak_X4_isHalf : GoodIn wsX4_speak wsX4_isHalf := goodIn_r _ [6, 7, 8, 5, 9] (by decide +kernel) (by decide +kernel)
set_option maxRecDepth 20000 in
theorem gX4_speak_X4_isHalf : GoodIn wsX4_speak (va_wsS RX4 116 yX4_isHalf wsX4_isHalf) := goodIn_app (goodIn_of _ (by decide +kernel)) ggX4_speak_X4_isHalf
set_option maxRecDepth 20000 in
theorem ggX4_speak_X4_isTongue : GoodIn wsX4_speak wsX4_isTongue := goodIn_r _ [12, 7, 8, 5, 9] (by decide +kernel) (by decide +kernel)
set_option maxRecDepth 20000 in
theorem gX4_speak_X4_isTongue : GoodIn wsX4_speak (va_wsS RX4 119 yX4_isTongue wsX4_isTongue) := goodIn_app (goodIn_of _ (by decide +kernel)) ggX4_speak_X4_isTongue
