set_option maxRecDepth 20000 in
theorem ggX3_late_X0_lateOverall : GoodIn wsX3_late wsX0_lateOverall := goodIn_r _ [10, 11, 12, 13, 14, 15, 16, 17, 18, 9, 19, 20, 21, 22, 23, 4, 24, 25, 26, 27, 28, 29, 30, 31, 32, 33, 34, 35, 36, 37, 38, 39, 40, 41, 3, 5, 42, 43, 44, 45, 46, 47, 48, 49, 50, 51, 52, 53, 54, 55, 56, 57, 58, 59, 60, 61, 62, 63, 64, 65, 66, 67, 68, 69, 70, 71, 72, 73, 81, 82, 83, 84, 85, 86, 87, 88, 89, 90, 91, 92] (by decide +kernel) (by decide +kernel)
set_option maxRecDepth 20000 in
theorem gX3_late_X0_lateOverall : GoodIn wsX3_late (wsV RX3 142 RX0 yX0_lateOverall wsX0_lateOverall) := goodIn_app (goodIn_of _ (by decide +kernel)) ggX3_late_X0_lateOverall
set_option maxRecDepth 20000 in
theorem ggX3_worn_X0_wornBits : GoodIn wsX3_worn wsX0_wornBits := goodIn_r _ [7, 8, 9, 10, 11, 12, 13, 14, 15, 6, 16, 17, 18, 19, 20, 21, 22, 23, 24, 25, 26, 27, 28, 29, 30, 31, 32, 33, 34, 35, 36, 37, 38, 39, 40, 41, 42, 43, 44, 45, 46, 47, 48, 49, 50, 51, 52, 53, 54, 55, 56, 57, 58, 59, 60, 61, 62, 63, 64, 65, 66, 67, 68, 69, 70, 71, 72, 73, 81, 82, 83, 84, 85, 86, 87, 88, 89, 90, 91, 92] (by decide +kernel) (by decide +kernel)
set_option maxRecDepth 20000 in
theorem gX3_worn_X0_wornBits : GoodIn wsX3_worn (wsV RX3 145 RX0 yX0_wornBits wsX0_wornBits) := goodIn_app (goodIn_of _ (by decide +kernel)) ggX3_worn_X0_wornBits
set_option maxRecDepth 20000 in
theorem ggX3_count_J6_bitCount_0f7a4 : GoodIn wsX3_count wsJ6_bitCount_0f7a4 := goodIn_r _ [7, 8, 9, 10] (by decide +kernel) (by decide +kernel)
set_option maxRecDepth 20000 in
theorem gX3_count_J6_bitCount_0f7a4 : GoodIn wsX3_count (va_wsS RX3 154 yJ6_bitCount_0f7a4 wsJ6_bitCount_0f7a4) := goodIn_app (goodIn_of _ (by decide +kernel)) ggX3_count_J6_bitCount_0f7a4
set_option maxRecDepth 20000 in
theorem ggX3_count_X1_seated : GoodIn wsX3_count wsX1_seated := goodIn_r _ [15, 16, 17, 18, 19, 14, 20, 21, 22, 23, 24, 25, 46, 47, 48, 49, 50, 51] (by decide +kernel) (by decide +kernel)
set_option maxRecDepth 20000 in
theorem gX3_count_X1_seated : GoodIn wsX3_count (wsV RX3 93 RX1 yX1_seated wsX1_seated) := goodIn_app (goodIn_of _ (by decide +kernel)) ggX3_count_X1_seated
set_option maxRecDepth 20000 in
theorem ggX3_count_X0_spokenHalves : GoodIn wsX3_count wsX0_spokenHalves := goodIn_r _ [30, 31, 32, 33, 29, 34, 35, 36, 37, 38, 52, 53, 54, 55, 56, 57] (by decide +kernel) (by decide +kernel)
set_option maxRecDepth 20000 in
theorem gX3_count_X0_spokenHalves : GoodIn wsX3_count (wsV RX3 159 RX0 yX0_spokenHalves wsX0_spokenHalves) := goodIn_app (goodIn_of _ (by decide +kernel)) ggX3_count_X0_spokenHalves
set_option maxRecDepth 20000 in
theorem ggX3_searchTeams_X3_isSession : GoodIn wsX3_searchTeams wsX3_isSession := goodIn_r _ [8] (by decide +kernel) (by decide +kernel)
set_option maxRecDepth 20000 in
theorem gX3_searchTeams_X3_isSession : GoodIn wsX3_searchTeams (va_wsS RX3 64 yX3_isSession wsX3_isSession) := goodIn_app (goodIn_of _ (by decide +kernel)) ggX3_searchTeams_X3_isSession
set_option maxRecDepth 20000 in
theorem ggX3_searchTeams_X2_prepare : GoodIn wsX3_searchTeams wsX2_prepare := goodIn_r _ [13, 14, 15, 16, 17, 18, 19, 20, 21, 22, 23, 7, 24, 111, 112, 113, 114, 115, 116, 117, 118, 119, 120, 121, 122, 123, 124] (by decide +kernel) (by decide +kernel)
set_option maxRecDepth 20000 in
theorem gX3_searchTeams_X2_prepare : GoodIn wsX3_searchTeams (wsV RX3 162 RX2 yX2_prepare wsX2_prepare) := goodIn_app (goodIn_of _ (by decide +kernel)) ggX3_searchTeams_X2_prepare
set_option maxRecDepth 20000 in
theorem ggX3_searchTeams_X2_placeFrom : GoodIn wsX3_searchTeams wsX2_placeFrom := goodIn_r _ [27, 21, 28, 29, 30, 31, 32, 33, 34, 35, 36, 37, 38, 12, 39, 15, 40, 41, 42, 43, 44, 45, 46, 47, 48, 49, 7, 50, 51, 52, 53, 54, 55, 56, 23, 24, 57, 58, 59, 60, 14, 61, 62, 63, 64, 17, 16, 65, 66, 67, 68, 69, 70, 71, 72, 73, 74, 75, 76, 77, 78, 18, 79, 80, 81, 82, 83, 84, 85, 86, 87, 19, 20, 88, 89, 90, 91, 92, 25, 26, 93, 22, 94, 95, 96, 97, 98, 99, 100, 101, 102, 103, 111, 112, 113, 114, 115, 116, 117, 118, 119, 120, 121, 122, 123, 124, 125, 126, 127, 128, 129, 130] (by decide +kernel) (by decide +kernel)
set_option maxRecDepth 20000 in
theorem gX3_searchTeams_X2_placeFrom_n165 : GoodIn wsX3_searchTeams (wsX2_placeFrom) := ggX3_searchTeams_X2_placeFrom
set_option maxRecDepth 20000 in
theorem ggX4_isPerson_X4_in : GoodIn wsX4_isPerson wsX4_in := goodIn_r _ [5] (by decide +kernel) (by decide +kernel)
set_option maxRecDepth 20000 in
theorem gX4_isPerson_X4_in : GoodIn wsX4_isPerson (va_wsS RX4 69 yX4_in wsX4_in) := goodIn_app (goodIn_of _ (by decide +kernel)) ggX4_isPerson_X4_in
set_option maxRecDepth 20000 in
theorem ggX4_isSession_X4_in : GoodIn wsX4_isSession wsX4_in := goodIn_r _ [4] (by decide +kernel) (by decide +kernel)
set_option maxRecDepth 20000 in
theorem gX4_isSession_X4_in : GoodIn wsX4_isSession (va_wsS RX4 69 yX4_in wsX4_in) := goodIn_app (goodIn_of _ (by decide +kernel)) ggX4_isSession_X4_in
set_option maxRecDepth 20000 in
theorem ggX4_isTongue_X4_in : GoodIn wsX4_isTongue wsX4_in := goodIn_r _ [4] (by decide +kernel) (by decide +kernel)
set_option maxRecDepth 20000 in
theorem gX4_isTongue_X4_in : GoodIn wsX4_isTongue (va_wsS RX4 69 yX4_in wsX4_in) := goodIn_app (goodIn_of _ (by decide +kernel)) ggX4_isTongue_X4_in
set_option maxRecDepth 20000 in
theorem ggX4_isHalf_X4_in : GoodIn wsX4_isHalf wsX4_in := goodIn_r _ [4] (by decide +kernel) (by decide +kernel)
set_option maxRecDepth 20000 in
theorem gX4_isHalf_X4_in : GoodIn wsX4_isHalf (va_wsS RX4 69 yX4_in wsX4_in) := goodIn_app (goodIn_of _ (by decide +kernel)) ggX4_isHalf_X4_in
set_option maxRecDepth 20000 in
theorem ggX4_person_X4_in : GoodIn wsX4_person wsX4_in := goodIn_r _ [8] (by decide +kernel) (by decide +kernel)
set_option maxRecDepth 20000 in
theorem gX4_person_X4_in : GoodIn wsX4_person (va_wsS RX4 69 yX4_in wsX4_in) := goodIn_app (goodIn_of _ (by decide +kernel)) ggX4_person_X4_in
set_option maxRecDepth 20000 in
theorem ggX4_ill_X4_isPerson : GoodIn wsX4_ill wsX4_isPerson := goodIn_r _ [6, 7, 8, 9, 5, 10, 11, 12, 13, 14, 15, 16, 17, 18, 19, 20, 21, 22, 23, 24, 25, 26, 27, 28, 29, 30, 31, 32, 33, 34, 35] (by decide +kernel) (by decide +kernel)
set_option maxRecDepth 20000 in
theorem gX4_ill_X4_isPerson : GoodIn wsX4_ill (wsV RX4 73 RX4 yX4_isPerson wsX4_isPerson) := goodIn_app (goodIn_of _ (by decide +kernel)) ggX4_ill_X4_isPerson
set_option maxRecDepth 20000 in
theorem ggX4_session_X4_isSession : GoodIn wsX4_session wsX4_isSession := goodIn_r _ [6, 7, 8, 5, 9] (by decide +kernel) (by decide +kernel)
set_option maxRecDepth 20000 in
theorem gX4_session_X4_isSession : GoodIn wsX4_session (va_wsS RX4 77 yX4_isSession wsX4_isSession) := goodIn_app (goodIn_of _ (by decide +kernel)) ggX4_session_X4_isSession
set_option maxRecDepth 20000 in
theorem ggX4_session_X4_in : GoodIn wsX4_session wsX4_in := goodIn_r _ [9] (by decide +kernel) (by decide +kernel)
set_option maxRecDepth 20000 in
theorem gX4_session_X4_in : GoodIn wsX4_session (va_wsS RX4 69 yX4_in wsX4_in) := goodIn_app (goodIn_of _ (by decide +kernel)) ggX4_session_X4_in
set_option maxRecDepth 20000 in
theorem ggX4_seats_X4_in : GoodIn wsX4_seats wsX4_in := goodIn_r _ [5] (by decide +kernel) (by decide +kernel)
set_option maxRecDepth 20000 in
theorem gX4_seats_X4_in : GoodIn wsX4_seats (va_wsS RX4 69 yX4_in wsX4_in) := goodIn_app (goodIn_of _ (by decide +kernel)) ggX4_seats_X4_in
set_option maxRecDepth 20000 in
theorem ggX4_isTeam_X4_has : GoodIn wsX4_isTeam wsX4_has := goodIn_r _ [10] (by decide +kernel) (by decide +kernel)
set_option maxRecDepth 20000 in
theorem gX4_isTeam_X4_has : GoodIn wsX4_isTeam (va_wsS RX4 80 yX4_has wsX4_has) := goodIn_app (goodIn_of _ (by decide +kernel)) ggX4_isTeam_X4_has
set_option maxRecDepth 20000 in
theorem ggX4_allKnow_X4_has : GoodIn wsX4_allKnow wsX4_has := goodIn_r _ [7] (by decide +kernel) (by decide +kernel)
set_option maxRecDepth 20000 in
theorem gX4_allKnow_X4_has : GoodIn wsX4_allKnow (va_wsS RX4 80 yX4_has wsX4_has) := goodIn_app (goodIn_of _ (by decide +kernel)) ggX4_allKnow_X4_has
set_option maxRecDepth 20000 in
theorem ggX4_isWhole_X4_has : GoodIn wsX4_isWhole wsX4_has := goodIn_r _ [6] (by decide +kernel) (by decide +kernel)
set_option maxRecDepth 20000 in
theorem gX4_isWhole_X4_has : GoodIn wsX4_isWhole (va_wsS RX4 80 yX4_has wsX4_has) := goodIn_app (goodIn_of _ (by decide +kernel)) ggX4_isWhole_X4_has
set_option maxRecDepth 20000 in
theorem ggX4_isWhole_X4_allKnow : GoodIn wsX4_isWhole wsX4_allKnow := goodIn_r _ [10, 11, 12, 13, 3, 4, 5, 6, 14, 15, 16, 17, 18, 19, 20, 21, 22, 23, 24, 25, 26, 27, 28, 29, 30, 31, 32, 33, 34, 35, 36, 37, 38] (by decide +kernel) (by decide +kernel)
set_option maxRecDepth 20000 in
theorem gX4_isWhole_X4_allKnow : GoodIn wsX4_isWhole (wsV RX4 84 RX4 yX4_allKnow wsX4_allKnow) := goodIn_app (goodIn_of _ (by decide +kernel)) ggX4_isWhole_X4_allKnow
