set_option maxRecDepth 20000 in
theorem ggX0_init_J7_fill_53178 : GoodIn wsX0_init wsJ7_fill_53178 := goodIn_r _ [14] (by decide +kernel) (by decide +kernel)
set_option maxRecDepth 20000 in
theorem gX0_init_J7_fill_53178 : GoodIn wsX0_init (va_wsS RX0 31 yJ7_fill_53178 wsJ7_fill_53178) := goodIn_app (goodIn_of _ (by decide +kernel)) ggX0_init_J7_fill_53178
set_option maxRecDepth 20000 in
theorem ggX0_setSpoken_X3_isHalf : GoodIn wsX0_setSpoken wsX3_isHalf := goodIn_r _ [5] (by decide +kernel) (by decide +kernel)
set_option maxRecDepth 20000 in
theorem gX0_setSpoken_X3_isHalf_n37 : GoodIn wsX0_setSpoken (wsX3_isHalf) := ggX0_setSpoken_X3_isHalf
set_option maxRecDepth 20000 in
theorem ggX0_setSilent_X0_setSpoken : GoodIn wsX0_setSilent wsX0_setSpoken := goodIn_r _ [5, 6, 7, 8, 9, 10, 11, 12, 13, 14, 15, 16] (by decide +kernel) (by decide +kernel)
set_option maxRecDepth 20000 in
theorem gX0_setSilent_X0_setSpoken : GoodIn wsX0_setSilent (wsV RX0 41 RX0 yX0_setSpoken wsX0_setSpoken) := goodIn_app (goodIn_of _ (by decide +kernel)) ggX0_setSilent_X0_setSpoken
set_option maxRecDepth 20000 in
theorem ggX0_isSilent_X3_isHalf : GoodIn wsX0_isSilent wsX3_isHalf := goodIn_r _ [4] (by decide +kernel) (by decide +kernel)
set_option maxRecDepth 20000 in
theorem gX0_isSilent_X3_isHalf_n37 : GoodIn wsX0_isSilent (wsX3_isHalf) := ggX0_isSilent_X3_isHalf
set_option maxRecDepth 20000 in
theorem ggX0_spokenHalves_X0_isSilent : GoodIn wsX0_spokenHalves wsX0_isSilent := goodIn_r _ [5, 6, 7, 8, 9, 10, 11, 12, 13, 14, 15] (by decide +kernel) (by decide +kernel)
set_option maxRecDepth 20000 in
theorem gX0_spokenHalves_X0_isSilent : GoodIn wsX0_spokenHalves (wsV RX0 45 RX0 yX0_isSilent wsX0_isSilent) := goodIn_app (goodIn_of _ (by decide +kernel)) ggX0_spokenHalves_X0_isSilent
set_option maxRecDepth 20000 in
theorem ggX0_playThrough_J7_fill_53178 : GoodIn wsX0_playThrough wsJ7_fill_53178 := goodIn_r _ [5] (by decide +kernel) (by decide +kernel)
set_option maxRecDepth 20000 in
theorem gX0_playThrough_J7_fill_53178 : GoodIn wsX0_playThrough (va_wsS RX0 31 yJ7_fill_53178 wsJ7_fill_53178) := goodIn_app (goodIn_of _ (by decide +kernel)) ggX0_playThrough_J7_fill_53178
set_option maxRecDepth 20000 in
theorem ggX0_playThrough_X0_playHalf : GoodIn wsX0_playThrough wsX0_playHalf := goodIn_r _ [10, 11, 12, 13, 14, 15, 16, 17, 18, 19, 9, 20, 21, 22, 2, 3, 4, 5, 23, 24, 25, 26, 27, 28, 29, 30, 31, 32, 33, 34, 35, 36, 37, 38, 39, 1, 40, 41, 42, 43, 44, 45, 46, 47, 48, 49, 50, 51, 52, 53, 54, 55, 56, 57, 58, 59, 60, 61, 62, 63, 64, 65, 66, 67, 68, 69, 70, 71, 72, 73, 74, 75] (by decide +kernel) (by decide +kernel)
set_option maxRecDepth 20000 in
theorem gX0_playThrough_X0_playHalf : GoodIn wsX0_playThrough (wsV RX0 48 RX0 yX0_playHalf wsX0_playHalf) := goodIn_app (goodIn_of _ (by decide +kernel)) ggX0_playThrough_X0_playHalf
set_option maxRecDepth 20000 in
theorem ggX0_lateOverall_J7_fill_53178 : GoodIn wsX0_lateOverall wsJ7_fill_53178 := goodIn_r _ [5] (by decide +kernel) (by decide +kernel)
set_option maxRecDepth 20000 in
theorem gX0_lateOverall_J7_fill_53178 : GoodIn wsX0_lateOverall (va_wsS RX0 31 yJ7_fill_53178 wsJ7_fill_53178) := goodIn_app (goodIn_of _ (by decide +kernel)) ggX0_lateOverall_J7_fill_53178
set_option maxRecDepth 20000 in
theorem ggX0_lateOverall_X0_playHalf : GoodIn wsX0_lateOverall wsX0_playHalf := goodIn_r _ [10, 11, 12, 13, 14, 15, 16, 17, 18, 19, 9, 20, 21, 22, 2, 3, 4, 5, 23, 24, 25, 26, 27, 28, 29, 30, 31, 32, 33, 34, 35, 36, 37, 38, 39, 1, 40, 41, 42, 43, 44, 45, 46, 47, 48, 49, 50, 51, 52, 53, 54, 55, 56, 57, 58, 59, 60, 61, 62, 63, 68, 69, 70, 71, 72, 73, 74, 75, 76, 77, 78, 79] (by decide +kernel) (by decide +kernel)
set_option maxRecDepth 20000 in
theorem gX0_lateOverall_X0_playHalf : GoodIn wsX0_lateOverall (wsV RX0 48 RX0 yX0_playHalf wsX0_playHalf) := goodIn_app (goodIn_of _ (by decide +kernel)) ggX0_lateOverall_X0_playHalf
set_option maxRecDepth 20000 in
theorem ggX0_lateOverall_X0_lateIn : GoodIn wsX0_lateOverall wsX0_lateIn := goodIn_r _ [67, 11, 13, 14, 15, 16, 34, 35, 68, 69, 70, 71, 72, 73] (by decide +kernel) (by decide +kernel)
set_option maxRecDepth 20000 in
theorem gX0_lateOverall_X0_lateIn : GoodIn wsX0_lateOverall (wsV RX0 52 RX0 yX0_lateIn wsX0_lateIn) := goodIn_app (goodIn_of _ (by decide +kernel)) ggX0_lateOverall_X0_lateIn
set_option maxRecDepth 20000 in
theorem ggX0_wornBits_J7_fill_53178 : GoodIn wsX0_wornBits wsJ7_fill_53178 := goodIn_r _ [5] (by decide +kernel) (by decide +kernel)
set_option maxRecDepth 20000 in
theorem gX0_wornBits_J7_fill_53178 : GoodIn wsX0_wornBits (va_wsS RX0 31 yJ7_fill_53178 wsJ7_fill_53178) := goodIn_app (goodIn_of _ (by decide +kernel)) ggX0_wornBits_J7_fill_53178
set_option maxRecDepth 20000 in
theorem ggX0_wornBits_X0_playHalf : GoodIn wsX0_wornBits wsX0_playHalf := goodIn_r _ [10, 11, 12, 13, 14, 15, 16, 17, 18, 19, 9, 20, 21, 22, 2, 3, 4, 5, 23, 24, 25, 26, 27, 28, 29, 30, 31, 32, 33, 34, 35, 36, 37, 38, 39, 1, 40, 41, 42, 43, 44, 45, 46, 47, 48, 49, 50, 51, 52, 53, 54, 55, 56, 57, 58, 59, 60, 61, 62, 63, 68, 69, 70, 71, 72, 73, 74, 75, 76, 77, 78, 79] (by decide +kernel) (by decide +kernel)
set_option maxRecDepth 20000 in
theorem gX0_wornBits_X0_playHalf : GoodIn wsX0_wornBits (wsV RX0 48 RX0 yX0_playHalf wsX0_playHalf) := goodIn_app (goodIn_of _ (by decide +kernel)) ggX0_wornBits_X0_playHalf
set_option maxRecDepth 20000 in
theorem ggX0_wornBits_X0_tiredAbove : GoodIn wsX0_wornBits wsX0_tiredAbove := goodIn_r _ [67, 22, 1, 68, 69, 70, 71, 72, 73, 74, 75, 76, 77, 78, 79] (by decide +kernel) (by decide +kernel)
set_option maxRecDepth 20000 in
theorem gX0_wornBits_X0_tiredAbove : GoodIn wsX0_wornBits (wsV RX0 56 RX0 yX0_tiredAbove wsX0_tiredAbove) := goodIn_app (goodIn_of _ (by decide +kernel)) ggX0_wornBits_X0_tiredAbove
set_option maxRecDepth 20000 in
theorem ggX0_playHalf_X3_isHalf : GoodIn wsX0_playHalf wsX3_isHalf := goodIn_r _ [6] (by decide +kernel) (by decide +kernel)
set_option maxRecDepth 20000 in
theorem gX0_playHalf_X3_isHalf_n37 : GoodIn wsX0_playHalf (wsX3_isHalf) := ggX0_playHalf_X3_isHalf
set_option maxRecDepth 20000 in
theorem ggX0_playHalf_X0_chooseOn : GoodIn wsX0_playHalf wsX0_chooseOn := goodIn_r _ [11, 12, 13, 14, 15, 16, 17, 18, 19, 20, 21, 22, 23, 24, 25, 26, 27, 28, 29, 5, 30, 31, 32, 33, 10, 34, 35, 36, 60, 61, 62, 63, 64, 65, 66, 67, 68, 69, 70, 71] (by decide +kernel) (by decide +kernel)
set_option maxRecDepth 20000 in
theorem gX0_playHalf_X0_chooseOn : GoodIn wsX0_playHalf (wsV RX0 60 RX0 yX0_chooseOn wsX0_chooseOn) := goodIn_app (goodIn_of _ (by decide +kernel)) ggX0_playHalf_X0_chooseOn
set_option maxRecDepth 20000 in
theorem ggX0_playHalf_X0_wayFrom : GoodIn wsX0_playHalf wsX0_wayFrom := goodIn_r _ [40, 12, 13, 41, 42, 43, 21, 44, 45, 24, 25, 26, 27, 28, 46, 5, 47, 60, 61, 62, 63, 64, 65, 66, 67, 68, 69, 70, 71] (by decide +kernel) (by decide +kernel)
set_option maxRecDepth 20000 in
theorem gX0_playHalf_X0_wayFrom : GoodIn wsX0_playHalf (wsV RX0 63 RX0 yX0_wayFrom wsX0_wayFrom) := goodIn_app (goodIn_of _ (by decide +kernel)) ggX0_playHalf_X0_wayFrom
set_option maxRecDepth 20000 in
theorem ggX0_playHalf_X0_tire : GoodIn wsX0_playHalf wsX0_tire := goodIn_r _ [51, 13, 35, 52, 53, 54, 55, 56, 57, 58, 10, 59, 12, 1, 18, 19, 20, 21, 22, 23, 24, 25, 26, 27, 28, 29, 5, 30, 60, 61, 62, 63, 64, 65, 66, 67, 68, 69, 70, 71] (by decide +kernel) (by decide +kernel)
set_option maxRecDepth 20000 in
theorem gX0_playHalf_X0_tire : GoodIn wsX0_playHalf (wsV RX0 66 RX0 yX0_tire wsX0_tire) := goodIn_app (goodIn_of _ (by decide +kernel)) ggX0_playHalf_X0_tire
set_option maxRecDepth 20000 in
theorem ggX0_chooseOn_J7_fill_53178 : GoodIn wsX0_chooseOn wsJ7_fill_53178 := goodIn_r _ [6] (by decide +kernel) (by decide +kernel)
set_option maxRecDepth 20000 in
theorem gX0_chooseOn_J7_fill_53178 : GoodIn wsX0_chooseOn (va_wsS RX0 31 yJ7_fill_53178 wsJ7_fill_53178) := goodIn_app (goodIn_of _ (by decide +kernel)) ggX0_chooseOn_J7_fill_53178
set_option maxRecDepth 20000 in
theorem ggX0_chooseOn_X1_boothOf : GoodIn wsX0_chooseOn wsX1_boothOf := goodIn_r _ [11, 12, 13, 14, 15, 10, 16, 17, 34, 35, 36, 37, 38, 39] (by decide +kernel) (by decide +kernel)
set_option maxRecDepth 20000 in
theorem gX0_chooseOn_X1_boothOf : GoodIn wsX0_chooseOn (wsV RX0 75 RX1 yX1_boothOf wsX1_boothOf) := goodIn_app (goodIn_of _ (by decide +kernel)) ggX0_chooseOn_X1_boothOf
set_option maxRecDepth 20000 in
theorem ggX0_chooseOn_X3_isTongue : GoodIn wsX0_chooseOn wsX3_isTongue := goodIn_r _ [20] (by decide +kernel) (by decide +kernel)
set_option maxRecDepth 20000 in
theorem gX0_chooseOn_X3_isTongue_n78 : GoodIn wsX0_chooseOn (wsX3_isTongue) := ggX0_chooseOn_X3_isTongue
set_option maxRecDepth 20000 in
theorem ggX0_chooseOn_X0_isFresher : GoodIn wsX0_chooseOn wsX0_isFresher := goodIn_r _ [25, 2, 26, 27, 14, 15, 10, 16, 17, 28, 29, 30, 31, 32, 33, 34, 35, 36, 37, 38, 39] (by decide +kernel) (by decide +kernel)
set_option maxRecDepth 20000 in
theorem gX0_chooseOn_X0_isFresher : GoodIn wsX0_chooseOn (wsV RX0 81 RX0 yX0_isFresher wsX0_isFresher) := goodIn_app (goodIn_of _ (by decide +kernel)) ggX0_chooseOn_X0_isFresher
