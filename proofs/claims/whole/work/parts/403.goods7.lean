set_option maxRecDepth 20000 in
theorem ggX4_speak_X4_in : GoodIn wsX4_speak wsX4_in := goodIn_r _ [9] (by decide +kernel) (by decide +kernel)
set_option maxRecDepth 20000 in
theorem gX4_speak_X4_in : GoodIn wsX4_speak (va_wsS RX4 69 yX4_in wsX4_in) := goodIn_app (goodIn_of _ (by decide +kernel)) ggX4_speak_X4_in
set_option maxRecDepth 20000 in
theorem ggX4_silence_X4_isHalf : GoodIn wsX4_silence wsX4_isHalf := goodIn_r _ [5, 6, 7, 4, 8] (by decide +kernel) (by decide +kernel)
set_option maxRecDepth 20000 in
theorem gX4_silence_X4_isHalf : GoodIn wsX4_silence (va_wsS RX4 116 yX4_isHalf wsX4_isHalf) := goodIn_app (goodIn_of _ (by decide +kernel)) ggX4_silence_X4_isHalf
set_option maxRecDepth 20000 in
theorem ggX4_limit_X4_in : GoodIn wsX4_limit wsX4_in := goodIn_r _ [5] (by decide +kernel) (by decide +kernel)
set_option maxRecDepth 20000 in
theorem gX4_limit_X4_in : GoodIn wsX4_limit (va_wsS RX4 69 yX4_in wsX4_in) := goodIn_app (goodIn_of _ (by decide +kernel)) ggX4_limit_X4_in
set_option maxRecDepth 20000 in
theorem ggX4_knowsIt_X4_has : GoodIn wsX4_knowsIt wsX4_has := goodIn_r _ [5] (by decide +kernel) (by decide +kernel)
set_option maxRecDepth 20000 in
theorem gX4_knowsIt_X4_has : GoodIn wsX4_knowsIt (va_wsS RX4 80 yX4_has wsX4_has) := goodIn_app (goodIn_of _ (by decide +kernel)) ggX4_knowsIt_X4_has
set_option maxRecDepth 20000 in
theorem ggX4_findOn_X4_knowsIt : GoodIn wsX4_findOn wsX4_knowsIt := goodIn_r _ [12, 7, 13, 14, 11, 15, 16, 17, 18, 19, 20, 21, 22, 23, 24, 25, 26, 27, 28, 29, 30, 31, 32, 33, 34, 35, 36, 37, 38, 39, 40] (by decide +kernel) (by decide +kernel)
set_option maxRecDepth 20000 in
theorem gX4_findOn_X4_knowsIt : GoodIn wsX4_findOn (wsV RX4 122 RX4 yX4_knowsIt wsX4_knowsIt) := goodIn_app (goodIn_of _ (by decide +kernel)) ggX4_findOn_X4_knowsIt
set_option maxRecDepth 20000 in
theorem ggX4_findOn_X4_has : GoodIn wsX4_findOn wsX4_has := goodIn_r _ [15] (by decide +kernel) (by decide +kernel)
set_option maxRecDepth 20000 in
theorem gX4_findOn_X4_has : GoodIn wsX4_findOn (va_wsS RX4 80 yX4_has wsX4_has) := goodIn_app (goodIn_of _ (by decide +kernel)) ggX4_findOn_X4_has
set_option maxRecDepth 20000 in
theorem ggX4_goTo_X4_findOn : GoodIn wsX4_goTo wsX4_findOn := goodIn_r _ [13, 5, 4, 14, 2, 15, 6, 16, 17, 18, 19, 12, 20, 21, 22, 23, 24, 25, 26, 27, 28, 29, 30, 31, 32, 33, 34, 35, 36, 37, 38, 39, 40, 41, 42, 43, 44, 45, 46, 47, 48] (by decide +kernel) (by decide +kernel)
set_option maxRecDepth 20000 in
theorem gX4_goTo_X4_findOn : GoodIn wsX4_goTo (wsV RX4 128 RX4 yX4_findOn wsX4_findOn) := goodIn_app (goodIn_of _ (by decide +kernel)) ggX4_goTo_X4_findOn
set_option maxRecDepth 20000 in
theorem ggX4_on_X4_isTongue : GoodIn wsX4_on wsX4_isTongue := goodIn_r _ [5, 6, 7, 4, 8] (by decide +kernel) (by decide +kernel)
set_option maxRecDepth 20000 in
theorem gX4_on_X4_isTongue : GoodIn wsX4_on (va_wsS RX4 119 yX4_isTongue wsX4_isTongue) := goodIn_app (goodIn_of _ (by decide +kernel)) ggX4_on_X4_isTongue
set_option maxRecDepth 20000 in
theorem ggX4_on_X4_isHalf : GoodIn wsX4_on wsX4_isHalf := goodIn_r _ [11, 6, 7, 4, 8] (by decide +kernel) (by decide +kernel)
set_option maxRecDepth 20000 in
theorem gX4_on_X4_isHalf : GoodIn wsX4_on (va_wsS RX4 116 yX4_isHalf wsX4_isHalf) := goodIn_app (goodIn_of _ (by decide +kernel)) ggX4_on_X4_isHalf
set_option maxRecDepth 20000 in
theorem ggX4_on_X4_goTo : GoodIn wsX4_on wsX4_goTo := goodIn_r _ [15, 16, 17, 18, 19, 1, 20, 21, 22, 23, 24, 25, 4, 26, 27, 28, 29, 30, 31, 32, 33, 34, 35, 36, 37, 38, 39, 40, 41, 42, 43, 44, 45, 46, 47, 48, 49, 50, 51, 52, 53, 54, 55, 56, 57, 58, 59, 60, 61] (by decide +kernel) (by decide +kernel)
set_option maxRecDepth 20000 in
theorem gX4_on_X4_goTo : GoodIn wsX4_on (wsV RX4 131 RX4 yX4_goTo wsX4_goTo) := goodIn_app (goodIn_of _ (by decide +kernel)) ggX4_on_X4_goTo
set_option maxRecDepth 20000 in
theorem ggX4_heard_X4_isTongue : GoodIn wsX4_heard wsX4_isTongue := goodIn_r _ [5, 6, 7, 4, 8] (by decide +kernel) (by decide +kernel)
set_option maxRecDepth 20000 in
theorem gX4_heard_X4_isTongue : GoodIn wsX4_heard (va_wsS RX4 119 yX4_isTongue wsX4_isTongue) := goodIn_app (goodIn_of _ (by decide +kernel)) ggX4_heard_X4_isTongue
set_option maxRecDepth 20000 in
theorem ggX4_heard_X4_isHalf : GoodIn wsX4_heard wsX4_isHalf := goodIn_r _ [11, 6, 7, 4, 8] (by decide +kernel) (by decide +kernel)
set_option maxRecDepth 20000 in
theorem gX4_heard_X4_isHalf : GoodIn wsX4_heard (va_wsS RX4 116 yX4_isHalf wsX4_isHalf) := goodIn_app (goodIn_of _ (by decide +kernel)) ggX4_heard_X4_isHalf
set_option maxRecDepth 20000 in
theorem ggX4_heard_X4_goTo : GoodIn wsX4_heard wsX4_goTo := goodIn_r _ [15, 16, 17, 18, 19, 20, 1, 21, 22, 23, 24, 25, 4, 26, 27, 28, 29, 30, 31, 32, 33, 34, 35, 36, 37, 38, 39, 40, 41, 42, 43, 44, 45, 46, 47, 48, 49, 50, 51, 52, 53, 54, 55, 56, 57, 58, 59, 60, 61] (by decide +kernel) (by decide +kernel)
set_option maxRecDepth 20000 in
theorem gX4_heard_X4_goTo : GoodIn wsX4_heard (wsV RX4 131 RX4 yX4_goTo wsX4_goTo) := goodIn_app (goodIn_of _ (by decide +kernel)) ggX4_heard_X4_goTo
set_option maxRecDepth 20000 in
theorem ggX4_tired_X4_isPerson : GoodIn wsX4_tired wsX4_isPerson := goodIn_r _ [6, 7, 8, 9, 5, 10, 38, 39, 40, 41, 42, 43, 44, 45, 46, 47, 48, 49, 50, 51, 52, 53, 54, 55, 56, 57, 58, 59, 60, 61, 62] (by decide +kernel) (by decide +kernel)
set_option maxRecDepth 20000 in
theorem gX4_tired_X4_isPerson : GoodIn wsX4_tired (wsV RX4 73 RX4 yX4_isPerson wsX4_isPerson) := goodIn_app (goodIn_of _ (by decide +kernel)) ggX4_tired_X4_isPerson
set_option maxRecDepth 20000 in
theorem ggX4_tired_X4_isHalf : GoodIn wsX4_tired wsX4_isHalf := goodIn_r _ [13, 8, 9, 5, 10] (by decide +kernel) (by decide +kernel)
set_option maxRecDepth 20000 in
theorem gX4_tired_X4_isHalf : GoodIn wsX4_tired (va_wsS RX4 116 yX4_isHalf wsX4_isHalf) := goodIn_app (goodIn_of _ (by decide +kernel)) ggX4_tired_X4_isHalf
set_option maxRecDepth 20000 in
theorem ggX4_tired_X4_goTo : GoodIn wsX4_tired wsX4_goTo := goodIn_r _ [17, 18, 1, 19, 7, 20, 21, 22, 23, 24, 25, 26, 5, 27, 28, 29, 30, 31, 32, 33, 34, 35, 36, 37, 38, 39, 40, 41, 42, 43, 44, 45, 46, 47, 48, 49, 50, 51, 52, 53, 54, 55, 56, 57, 58, 59, 60, 61, 62] (by decide +kernel) (by decide +kernel)
set_option maxRecDepth 20000 in
theorem gX4_tired_X4_goTo : GoodIn wsX4_tired (wsV RX4 131 RX4 yX4_goTo wsX4_goTo) := goodIn_app (goodIn_of _ (by decide +kernel)) ggX4_tired_X4_goTo
set_option maxRecDepth 20000 in
theorem ggX4_late_X4_isTongue : GoodIn wsX4_late wsX4_isTongue := goodIn_r _ [5, 6, 7, 4, 8] (by decide +kernel) (by decide +kernel)
set_option maxRecDepth 20000 in
theorem gX4_late_X4_isTongue : GoodIn wsX4_late (va_wsS RX4 119 yX4_isTongue wsX4_isTongue) := goodIn_app (goodIn_of _ (by decide +kernel)) ggX4_late_X4_isTongue
set_option maxRecDepth 20000 in
theorem ggX4_late_X4_goTo : GoodIn wsX4_late wsX4_goTo := goodIn_r _ [12, 13, 14, 1, 15, 16, 17, 18, 19, 20, 21, 22, 4, 23, 24, 25, 26, 27, 28, 29, 30, 31, 32, 33, 34, 35, 36, 37, 38, 39, 40, 41, 42, 43, 44, 45, 46, 47, 48, 49, 50, 51, 52, 53, 54, 55, 56, 57, 58] (by decide +kernel) (by decide +kernel)
set_option maxRecDepth 20000 in
theorem gX4_late_X4_goTo : GoodIn wsX4_late (wsV RX4 131 RX4 yX4_goTo wsX4_goTo) := goodIn_app (goodIn_of _ (by decide +kernel)) ggX4_late_X4_goTo
set_option maxRecDepth 20000 in
theorem ggX4_worn_X4_goTo : GoodIn wsX4_worn wsX4_goTo := goodIn_r _ [6, 1, 7, 8, 9, 10, 11, 12, 13, 14, 15, 16, 5, 17, 18, 19, 20, 21, 22, 23, 24, 25, 26, 27, 28, 29, 30, 31, 32, 33, 34, 35, 36, 37, 38, 39, 40, 41, 42, 43, 44, 45, 46, 47, 48, 49, 50, 51, 52] (by decide +kernel) (by decide +kernel)
set_option maxRecDepth 20000 in
theorem gX4_worn_X4_goTo : GoodIn wsX4_worn (wsV RX4 131 RX4 yX4_goTo wsX4_goTo) := goodIn_app (goodIn_of _ (by decide +kernel)) ggX4_worn_X4_goTo
set_option maxRecDepth 20000 in
theorem ggX4_count_X4_seated : GoodIn wsX4_count wsX4_seated := goodIn_r _ [9, 1, 10, 11, 12, 13, 14, 15, 16, 17, 18, 19, 20, 21, 22, 23, 24, 25, 26, 27, 28, 29, 30, 31, 32, 33, 34, 35] (by decide +kernel) (by decide +kernel)
set_option maxRecDepth 20000 in
theorem gX4_count_X4_seated : GoodIn wsX4_count (wsV RX4 112 RX4 yX4_seated wsX4_seated) := goodIn_app (goodIn_of _ (by decide +kernel)) ggX4_count_X4_seated
