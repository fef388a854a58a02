set_option maxRecDepth 20000 in
theorem ggX3_person_X1_add : GoodIn wsX3_person wsX1_add := goodIn_r _ [10, 11, 12, 13, 14, 15, 23, 24, 25, 26, 27, 28] (by decide +kernel) (by decide +kernel)
set_option maxRecDepth 20000 in
theorem gX3_person_X1_add : GoodIn wsX3_person (wsV RX3 50 RX1 yX1_add wsX1_add) := goodIn_app (goodIn_of _ (by decide +kernel)) ggX3_person_X1_add
set_option maxRecDepth 20000 in
theorem ggX3_ill_X1_has : GoodIn wsX3_ill wsX1_has := goodIn_r _ [6, 7, 27, 28, 29, 30, 31, 32] (by decide +kernel) (by decide +kernel)
set_option maxRecDepth 20000 in
theorem gX3_ill_X1_has : GoodIn wsX3_ill (wsV RX3 54 RX1 yX1_has wsX1_has) := goodIn_app (goodIn_of _ (by decide +kernel)) ggX3_ill_X1_has
set_option maxRecDepth 20000 in
theorem ggX3_ill_X1_isIll : GoodIn wsX3_ill wsX1_isIll := goodIn_r _ [11, 12, 13, 14, 15, 27, 28, 29, 30, 31, 32] (by decide +kernel) (by decide +kernel)
set_option maxRecDepth 20000 in
theorem gX3_ill_X1_isIll : GoodIn wsX3_ill (wsV RX3 57 RX1 yX1_isIll wsX1_isIll) := goodIn_app (goodIn_of _ (by decide +kernel)) ggX3_ill_X1_isIll
set_option maxRecDepth 20000 in
theorem ggX3_ill_X1_setIll : GoodIn wsX3_ill wsX1_setIll := goodIn_r _ [19, 12, 27, 28, 29, 30, 31, 32] (by decide +kernel) (by decide +kernel)
set_option maxRecDepth 20000 in
theorem gX3_ill_X1_setIll : GoodIn wsX3_ill (wsV RX3 60 RX1 yX1_setIll wsX1_setIll) := goodIn_app (goodIn_of _ (by decide +kernel)) ggX3_ill_X1_setIll
set_option maxRecDepth 20000 in
theorem ggX3_session_X3_isSession : GoodIn wsX3_session wsX3_isSession := goodIn_r _ [6] (by decide +kernel) (by decide +kernel)
set_option maxRecDepth 20000 in
theorem gX3_session_X3_isSession : GoodIn wsX3_session (va_wsS RX3 64 yX3_isSession wsX3_isSession) := goodIn_app (goodIn_of _ (by decide +kernel)) ggX3_session_X3_isSession
set_option maxRecDepth 20000 in
theorem ggX3_session_X3_areTongues : GoodIn wsX3_session wsX3_areTongues := goodIn_r _ [9] (by decide +kernel) (by decide +kernel)
set_option maxRecDepth 20000 in
theorem gX3_session_X3_areTongues : GoodIn wsX3_session (va_wsS RX3 46 yX3_areTongues wsX3_areTongues) := goodIn_app (goodIn_of _ (by decide +kernel)) ggX3_session_X3_areTongues
set_option maxRecDepth 20000 in
theorem ggX3_whole_X3_isSession : GoodIn wsX3_whole wsX3_isSession := goodIn_r _ [5] (by decide +kernel) (by decide +kernel)
set_option maxRecDepth 20000 in
theorem gX3_whole_X3_isSession : GoodIn wsX3_whole (va_wsS RX3 64 yX3_isSession wsX3_isSession) := goodIn_app (goodIn_of _ (by decide +kernel)) ggX3_whole_X3_isSession
set_option maxRecDepth 20000 in
theorem ggX3_whole_X3_searchTeams : GoodIn wsX3_whole wsX3_searchTeams := goodIn_r _ [9, 1, 10, 11, 12, 2, 3, 4, 5, 13, 14, 15, 16, 17, 18, 19, 20, 21, 22, 23, 24, 25, 26, 27, 28, 29, 30, 31, 32, 33, 34, 35, 36, 37, 38, 39, 40, 41, 42, 43, 44, 45, 46, 47, 48, 49, 50, 51, 52, 53, 54, 55, 56, 57, 58, 59, 60, 61, 62, 63, 64, 65, 66, 67, 68, 69, 70, 71, 72, 73, 74, 75, 76, 77, 78, 79, 80, 81, 82, 83, 84, 85, 86, 87, 88, 89, 90, 91, 92, 93, 94, 95, 96, 97, 98, 99, 100, 101, 102, 103, 104, 105, 106, 107, 108, 109, 110, 111, 112, 113, 114, 115, 116, 117, 118, 119, 120, 121, 122, 123, 124, 125, 126, 127, 128, 129, 130, 131, 132, 133, 134] (by decide +kernel) (by decide +kernel)
set_option maxRecDepth 20000 in
theorem gX3_whole_X3_searchTeams : GoodIn wsX3_whole (wsV RX3 67 RX3 yX3_searchTeams wsX3_searchTeams) := goodIn_app (goodIn_of _ (by decide +kernel)) ggX3_whole_X3_searchTeams
set_option maxRecDepth 20000 in
theorem ggX3_cheapest_X3_isSession : GoodIn wsX3_cheapest wsX3_isSession := goodIn_r _ [5] (by decide +kernel) (by decide +kernel)
set_option maxRecDepth 20000 in
theorem gX3_cheapest_X3_isSession : GoodIn wsX3_cheapest (va_wsS RX3 64 yX3_isSession wsX3_isSession) := goodIn_app (goodIn_of _ (by decide +kernel)) ggX3_cheapest_X3_isSession
set_option maxRecDepth 20000 in
theorem ggX3_cheapest_X3_searchTeams : GoodIn wsX3_cheapest wsX3_searchTeams := goodIn_r _ [9, 1, 10, 11, 12, 2, 3, 4, 5, 13, 14, 15, 16, 17, 18, 19, 20, 21, 22, 23, 24, 25, 26, 27, 28, 29, 30, 31, 32, 33, 34, 35, 36, 37, 38, 39, 40, 41, 42, 43, 44, 45, 46, 47, 48, 49, 50, 51, 52, 53, 54, 55, 56, 57, 58, 59, 60, 61, 62, 63, 64, 65, 66, 67, 68, 69, 70, 71, 72, 73, 74, 75, 76, 77, 78, 79, 80, 81, 82, 83, 84, 85, 86, 87, 88, 89, 90, 91, 92, 93, 94, 95, 96, 97, 98, 99, 100, 101, 102, 103, 104, 105, 106, 107, 108, 109, 110, 111, 112, 113, 114, 115, 116, 117, 118, 119, 120, 121, 122, 123, 124, 125, 126, 127, 128, 129, 130, 131, 132, 133, 134] (by decide +kernel) (by decide +kernel)
set_option maxRecDepth 20000 in
theorem gX3_cheapest_X3_searchTeams : GoodIn wsX3_cheapest (wsV RX3 67 RX3 yX3_searchTeams wsX3_searchTeams) := goodIn_app (goodIn_of _ (by decide +kernel)) ggX3_cheapest_X3_searchTeams
set_option maxRecDepth 20000 in
theorem ggX3_nearest_X3_isSession : GoodIn wsX3_nearest wsX3_isSession := goodIn_r _ [5] (by decide +kernel) (by decide +kernel)
set_option maxRecDepth 20000 in
theorem gX3_nearest_X3_isSession : GoodIn wsX3_nearest (va_wsS RX3 64 yX3_isSession wsX3_isSession) := goodIn_app (goodIn_of _ (by decide +kernel)) ggX3_nearest_X3_isSession
set_option maxRecDepth 20000 in
theorem ggX3_nearest_X3_searchTeams : GoodIn wsX3_nearest wsX3_searchTeams := goodIn_r _ [9, 1, 10, 11, 12, 2, 3, 4, 5, 13, 14, 15, 16, 17, 18, 19, 20, 21, 22, 23, 24, 25, 26, 27, 28, 29, 30, 31, 32, 33, 34, 35, 36, 37, 38, 39, 40, 41, 42, 43, 44, 45, 46, 47, 48, 49, 50, 51, 52, 53, 54, 55, 56, 57, 58, 59, 60, 61, 62, 63, 64, 65, 66, 67, 68, 69, 70, 71, 72, 73, 74, 75, 76, 77, 78, 79, 80, 81, 82, 83, 84, 85, 86, 87, 88, 89, 90, 91, 92, 93, 94, 95, 96, 97, 98, 99, 100, 101, 102, 103, 104, 105, 106, 107, 108, 109, 110, 111, 112, 113, 114, 115, 116, 117, 118, 119, 120, 121, 122, 123, 124, 125, 126, 127, 128, 129, 130, 131, 132, 133, 134] (by decide +kernel) (by decide +kernel)
set_option maxRecDepth 20000 in
theorem gX3_nearest_X3_searchTeams : GoodIn wsX3_nearest (wsV RX3 67 RX3 yX3_searchTeams wsX3_searchTeams) := goodIn_app (goodIn_of _ (by decide +kernel)) ggX3_nearest_X3_searchTeams
set_option maxRecDepth 20000 in
theorem ggX3_take_X3_isSession : GoodIn wsX3_take wsX3_isSession := goodIn_r _ [6] (by decide +kernel) (by decide +kernel)
set_option maxRecDepth 20000 in
theorem gX3_take_X3_isSession : GoodIn wsX3_take (va_wsS RX3 64 yX3_isSession wsX3_isSession) := goodIn_app (goodIn_of _ (by decide +kernel)) ggX3_take_X3_isSession
set_option maxRecDepth 20000 in
theorem ggX3_take_X3_searchTeams : GoodIn wsX3_take wsX3_searchTeams := goodIn_r _ [10, 1, 11, 12, 13, 3, 4, 5, 6, 14, 15, 16, 17, 18, 19, 20, 21, 22, 23, 24, 25, 26, 27, 28, 29, 30, 31, 32, 33, 34, 35, 36, 37, 38, 39, 40, 41, 42, 43, 44, 45, 46, 47, 48, 49, 50, 51, 52, 53, 54, 55, 56, 57, 58, 59, 60, 61, 62, 63, 64, 65, 66, 67, 68, 69, 70, 71, 72, 73, 74, 75, 76, 77, 78, 79, 80, 81, 82, 83, 84, 85, 86, 87, 88, 89, 90, 91, 92, 93, 94, 95, 96, 97, 98, 99, 100, 101, 102, 103, 104, 105, 106, 107, 108, 114, 115, 116, 117, 118, 119, 120, 121, 122, 123, 124, 125, 126, 127, 128, 129, 130, 131, 132, 133, 134, 135, 136, 137, 138, 139, 140] (by decide +kernel) (by decide +kernel)
set_option maxRecDepth 20000 in
theorem gX3_take_X3_searchTeams : GoodIn wsX3_take (wsV RX3 67 RX3 yX3_searchTeams wsX3_searchTeams) := goodIn_app (goodIn_of _ (by decide +kernel)) ggX3_take_X3_searchTeams
set_option maxRecDepth 20000 in
theorem ggX3_take_X1_seatAs : GoodIn wsX3_take wsX1_seatAs := goodIn_r _ [112, 79, 113, 86, 87, 88, 135, 136, 137, 138, 139, 140] (by decide +kernel) (by decide +kernel)
set_option maxRecDepth 20000 in
theorem gX3_take_X1_seatAs : GoodIn wsX3_take (wsV RX3 83 RX1 yX1_seatAs wsX1_seatAs) := goodIn_app (goodIn_of _ (by decide +kernel)) ggX3_take_X1_seatAs
set_option maxRecDepth 20000 in
theorem ggX3_leave_X1_seated : GoodIn wsX3_leave wsX1_seated := goodIn_r _ [6, 7, 8, 9, 10, 5, 11, 12, 13, 14, 15, 16, 32, 33, 34, 35, 36, 37] (by decide +kernel) (by decide +kernel)
set_option maxRecDepth 20000 in
theorem gX3_leave_X1_seated : GoodIn wsX3_leave (wsV RX3 93 RX1 yX1_seated wsX1_seated) := goodIn_app (goodIn_of _ (by decide +kernel)) ggX3_leave_X1_seated
set_option maxRecDepth 20000 in
theorem ggX3_leave_X1_unseatAll : GoodIn wsX3_leave wsX1_unseatAll := goodIn_r _ [20, 12, 21, 22, 23, 24, 32, 33, 34, 35, 36, 37] (by decide +kernel) (by decide +kernel)
set_option maxRecDepth 20000 in
theorem gX3_leave_X1_unseatAll : GoodIn wsX3_leave (wsV RX3 97 RX1 yX1_unseatAll wsX1_unseatAll) := goodIn_app (goodIn_of _ (by decide +kernel)) ggX3_leave_X1_unseatAll
set_option maxRecDepth 20000 in
theorem ggX3_booth_X1_has : GoodIn wsX3_booth wsX1_has := goodIn_r _ [6, 7, 21, 22, 23, 24, 25, 26] (by decide +kernel) (by decide +kernel)
set_option maxRecDepth 20000 in
theorem gX3_booth_X1_has : GoodIn wsX3_booth (wsV RX3 54 RX1 yX1_has wsX1_has) := goodIn_app (goodIn_of _ (by decide +kernel)) ggX3_booth_X1_has
set_option maxRecDepth 20000 in
theorem ggX3_booth_X1_boothOf : GoodIn wsX3_booth wsX1_boothOf := goodIn_r _ [11, 12, 13, 3, 4, 5, 6, 7, 21, 22, 23, 24, 25, 26] (by decide +kernel) (by decide +kernel)
set_option maxRecDepth 20000 in
theorem gX3_booth_X1_boothOf : GoodIn wsX3_booth (wsV RX3 100 RX1 yX1_boothOf wsX1_boothOf) := goodIn_app (goodIn_of _ (by decide +kernel)) ggX3_booth_X1_boothOf
set_option maxRecDepth 20000 in
theorem ggX3_lacking_X3_isSession : GoodIn wsX3_lacking wsX3_isSession := goodIn_r _ [7] (by decide +kernel) (by decide +kernel)
set_option maxRecDepth 20000 in
theorem gX3_lacking_X3_isSession : GoodIn wsX3_lacking (va_wsS RX3 64 yX3_isSession wsX3_isSession) := goodIn_app (goodIn_of _ (by decide +kernel)) ggX3_lacking_X3_isSession
set_option maxRecDepth 20000 in
theorem ggX3_lacking_X3_holds : GoodIn wsX3_lacking wsX3_holds := goodIn_r _ [10] (by decide +kernel) (by decide +kernel)
set_option maxRecDepth 20000 in
theorem gX3_lacking_X3_holds : GoodIn wsX3_lacking (va_wsS RX3 104 yX3_holds wsX3_holds) := goodIn_app (goodIn_of _ (by decide +kernel)) ggX3_lacking_X3_holds
